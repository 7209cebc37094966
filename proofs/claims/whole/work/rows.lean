section
-- ===== PART A: goes FIRST, ahead of the names: the tables' words, and 'selects' of the private methods out of them =====
/-- a private method of a class that the tables say can be made, by its rows of tables_1 -/
def lw_okq (q : MethodName × Nat) : Prop := (q.1.cls ≠ "java/lang/invoke/MethodHandle" ∧ q.1.cls ≠ "java/lang/invoke/VarHandle") ∧ Cond.instantiable q.1.cls q.2 ∈ tables_1 ∧ Cond.privateMethod q.1 ∈ tables_1 ∧ Cond.instanceMethod q.1 ∈ tables_1
theorem lw_p0 : lw_okq (⟨"LoggerTwins", "cellFault", "(II)I"⟩, 9) := ⟨⟨by decide +kernel, by decide +kernel⟩, List.mem_of_getElem? (i := 16) (by decide +kernel), List.mem_of_getElem? (i := 182) (by decide +kernel), List.mem_of_getElem? (i := 183) (by decide +kernel)⟩
theorem lw_p1 : lw_okq (⟨"LoggerTwins", "writeNumber", "(II)I"⟩, 9) := ⟨⟨by decide +kernel, by decide +kernel⟩, List.mem_of_getElem? (i := 16) (by decide +kernel), List.mem_of_getElem? (i := 249) (by decide +kernel), List.mem_of_getElem? (i := 250) (by decide +kernel)⟩
theorem lw_p2 : lw_okq (⟨"LoggerTwins", "writeCell", "(IILLoggerTwins$Cells;I)I"⟩, 9) := ⟨⟨by decide +kernel, by decide +kernel⟩, List.mem_of_getElem? (i := 16) (by decide +kernel), List.mem_of_getElem? (i := 253) (by decide +kernel), List.mem_of_getElem? (i := 254) (by decide +kernel)⟩
theorem lw_p3 : lw_okq (⟨"LoggerTwins$Cells", "floatTotal", "()F"⟩, 5) := ⟨⟨by decide +kernel, by decide +kernel⟩, List.mem_of_getElem? (i := 67) (by decide +kernel), List.mem_of_getElem? (i := 285) (by decide +kernel), List.mem_of_getElem? (i := 286) (by decide +kernel)⟩
theorem lw_p4 : lw_okq (⟨"LoggerTwins$Cells", "doubleTotal", "()D"⟩, 5) := ⟨⟨by decide +kernel, by decide +kernel⟩, List.mem_of_getElem? (i := 67) (by decide +kernel), List.mem_of_getElem? (i := 289) (by decide +kernel), List.mem_of_getElem? (i := 290) (by decide +kernel)⟩
theorem lw_p5 : lw_okq (⟨"LoggerTwins$Cells", "wholeTotal", "()J"⟩, 5) := ⟨⟨by decide +kernel, by decide +kernel⟩, List.mem_of_getElem? (i := 67) (by decide +kernel), List.mem_of_getElem? (i := 293) (by decide +kernel), List.mem_of_getElem? (i := 294) (by decide +kernel)⟩
theorem lw_p6 : lw_okq (⟨"LoggerTwins$Aligner", "leftCost", "(II[I)I"⟩, 4) := ⟨⟨by decide +kernel, by decide +kernel⟩, List.mem_of_getElem? (i := 45) (by decide +kernel), List.mem_of_getElem? (i := 338) (by decide +kernel), List.mem_of_getElem? (i := 339) (by decide +kernel)⟩
theorem lw_p7 : lw_okq (⟨"LoggerTwins$Aligner", "rightCost", "(II[I)I"⟩, 4) := ⟨⟨by decide +kernel, by decide +kernel⟩, List.mem_of_getElem? (i := 45) (by decide +kernel), List.mem_of_getElem? (i := 345) (by decide +kernel), List.mem_of_getElem? (i := 346) (by decide +kernel)⟩
theorem lw_p8 : lw_okq (⟨"LoggerTwins$Aligner", "pairCost", "(II[I)I"⟩, 4) := ⟨⟨by decide +kernel, by decide +kernel⟩, List.mem_of_getElem? (i := 45) (by decide +kernel), List.mem_of_getElem? (i := 353) (by decide +kernel), List.mem_of_getElem? (i := 354) (by decide +kernel)⟩
theorem lw_p9 : lw_okq (⟨"LoggerTwins$Comparison", "mergeMean", "(LLoggerTwins$Cells;III)V"⟩, 9) := ⟨⟨by decide +kernel, by decide +kernel⟩, List.mem_of_getElem? (i := 357) (by decide +kernel), List.mem_of_getElem? (i := 467) (by decide +kernel), List.mem_of_getElem? (i := 468) (by decide +kernel)⟩
theorem lw_p10 : lw_okq (⟨"LoggerTwins$Application", "faultOf", "(I)I"⟩, 6) := ⟨⟨by decide +kernel, by decide +kernel⟩, List.mem_of_getElem? (i := 570) (by decide +kernel), List.mem_of_getElem? (i := 604) (by decide +kernel), List.mem_of_getElem? (i := 605) (by decide +kernel)⟩
theorem lw_p11 : lw_okq (⟨"LoggerTwins$Application", "perform", "(I)V"⟩, 6) := ⟨⟨by decide +kernel, by decide +kernel⟩, List.mem_of_getElem? (i := 570) (by decide +kernel), List.mem_of_getElem? (i := 610) (by decide +kernel), List.mem_of_getElem? (i := 611) (by decide +kernel)⟩
theorem lw_p12 : lw_okq (⟨"LoggerTwins", "logged", "(LLoggerTwins$Cells;LLoggerTwins$Cells;I)LLoggerTwins$Cells;"⟩, 9) := ⟨⟨by decide +kernel, by decide +kernel⟩, List.mem_of_getElem? (i := 16) (by decide +kernel), List.mem_of_getElem? (i := 632) (by decide +kernel), List.mem_of_getElem? (i := 633) (by decide +kernel)⟩
theorem lw_p13 : lw_okq (⟨"LoggerTwins$Records", "isFirstHolder", "(I)Z"⟩, 2) := ⟨⟨by decide +kernel, by decide +kernel⟩, List.mem_of_getElem? (i := 24) (by decide +kernel), List.mem_of_getElem? (i := 657) (by decide +kernel), List.mem_of_getElem? (i := 658) (by decide +kernel)⟩
theorem lw_p14 : lw_okq (⟨"LoggerTwins", "patchesMade", "()I"⟩, 9) := ⟨⟨by decide +kernel, by decide +kernel⟩, List.mem_of_getElem? (i := 16) (by decide +kernel), List.mem_of_getElem? (i := 693) (by decide +kernel), List.mem_of_getElem? (i := 694) (by decide +kernel)⟩
theorem lw_p15 : lw_okq (⟨"LoggerTwins", "imagesKept", "()I"⟩, 9) := ⟨⟨by decide +kernel, by decide +kernel⟩, List.mem_of_getElem? (i := 16) (by decide +kernel), List.mem_of_getElem? (i := 697) (by decide +kernel), List.mem_of_getElem? (i := 698) (by decide +kernel)⟩
def lw_privs_1 : List (MethodName × Nat) := [(⟨"LoggerTwins", "cellFault", "(II)I"⟩, 9), (⟨"LoggerTwins", "writeNumber", "(II)I"⟩, 9), (⟨"LoggerTwins", "writeCell", "(IILLoggerTwins$Cells;I)I"⟩, 9), (⟨"LoggerTwins$Cells", "floatTotal", "()F"⟩, 5), (⟨"LoggerTwins$Cells", "doubleTotal", "()D"⟩, 5), (⟨"LoggerTwins$Cells", "wholeTotal", "()J"⟩, 5), (⟨"LoggerTwins$Aligner", "leftCost", "(II[I)I"⟩, 4), (⟨"LoggerTwins$Aligner", "rightCost", "(II[I)I"⟩, 4), (⟨"LoggerTwins$Aligner", "pairCost", "(II[I)I"⟩, 4), (⟨"LoggerTwins$Comparison", "mergeMean", "(LLoggerTwins$Cells;III)V"⟩, 9), (⟨"LoggerTwins$Application", "faultOf", "(I)I"⟩, 6), (⟨"LoggerTwins$Application", "perform", "(I)V"⟩, 6), (⟨"LoggerTwins", "logged", "(LLoggerTwins$Cells;LLoggerTwins$Cells;I)LLoggerTwins$Cells;"⟩, 9), (⟨"LoggerTwins$Records", "isFirstHolder", "(I)Z"⟩, 2), (⟨"LoggerTwins", "patchesMade", "()I"⟩, 9), (⟨"LoggerTwins", "imagesKept", "()I"⟩, 9)]
theorem lw_r1 : ∀ q ∈ lw_privs_1, lw_okq q := List.forall_mem_cons.mpr ⟨lw_p0, List.forall_mem_cons.mpr ⟨lw_p1, List.forall_mem_cons.mpr ⟨lw_p2, List.forall_mem_cons.mpr ⟨lw_p3, List.forall_mem_cons.mpr ⟨lw_p4, List.forall_mem_cons.mpr ⟨lw_p5, List.forall_mem_cons.mpr ⟨lw_p6, List.forall_mem_cons.mpr ⟨lw_p7, List.forall_mem_cons.mpr ⟨lw_p8, List.forall_mem_cons.mpr ⟨lw_p9, List.forall_mem_cons.mpr ⟨lw_p10, List.forall_mem_cons.mpr ⟨lw_p11, List.forall_mem_cons.mpr ⟨lw_p12, List.forall_mem_cons.mpr ⟨lw_p13, List.forall_mem_cons.mpr ⟨lw_p14, List.forall_mem_cons.mpr ⟨lw_p15, fun _ h => absurd h List.not_mem_nil⟩⟩⟩⟩⟩⟩⟩⟩⟩⟩⟩⟩⟩⟩⟩⟩
theorem lw_p16 : lw_okq (⟨"LoggerTwinsModel", "takesRow", "(III)V"⟩, 26) := ⟨⟨by decide +kernel, by decide +kernel⟩, List.mem_of_getElem? (i := 701) (by decide +kernel), List.mem_of_getElem? (i := 798) (by decide +kernel), List.mem_of_getElem? (i := 799) (by decide +kernel)⟩
theorem lw_p17 : lw_okq (⟨"LoggerTwinsModel", "isHeld", "(I)Z"⟩, 26) := ⟨⟨by decide +kernel, by decide +kernel⟩, List.mem_of_getElem? (i := 701) (by decide +kernel), List.mem_of_getElem? (i := 802) (by decide +kernel), List.mem_of_getElem? (i := 803) (by decide +kernel)⟩
theorem lw_p18 : lw_okq (⟨"LoggerTwinsModel", "cellAt", "(II)I"⟩, 26) := ⟨⟨by decide +kernel, by decide +kernel⟩, List.mem_of_getElem? (i := 701) (by decide +kernel), List.mem_of_getElem? (i := 806) (by decide +kernel), List.mem_of_getElem? (i := 807) (by decide +kernel)⟩
theorem lw_p19 : lw_okq (⟨"LoggerTwinsModel", "lays", "(IIJD)V"⟩, 26) := ⟨⟨by decide +kernel, by decide +kernel⟩, List.mem_of_getElem? (i := 701) (by decide +kernel), List.mem_of_getElem? (i := 810) (by decide +kernel), List.mem_of_getElem? (i := 811) (by decide +kernel)⟩
theorem lw_p20 : lw_okq (⟨"LoggerTwinsModel", "kindOf", "(I)I"⟩, 26) := ⟨⟨by decide +kernel, by decide +kernel⟩, List.mem_of_getElem? (i := 701) (by decide +kernel), List.mem_of_getElem? (i := 822) (by decide +kernel), List.mem_of_getElem? (i := 823) (by decide +kernel)⟩
theorem lw_p21 : lw_okq (⟨"LoggerTwinsModel", "firstOf", "(I)I"⟩, 26) := ⟨⟨by decide +kernel, by decide +kernel⟩, List.mem_of_getElem? (i := 701) (by decide +kernel), List.mem_of_getElem? (i := 826) (by decide +kernel), List.mem_of_getElem? (i := 827) (by decide +kernel)⟩
theorem lw_p22 : lw_okq (⟨"LoggerTwinsModel", "rowFault", "(I)I"⟩, 26) := ⟨⟨by decide +kernel, by decide +kernel⟩, List.mem_of_getElem? (i := 701) (by decide +kernel), List.mem_of_getElem? (i := 834) (by decide +kernel), List.mem_of_getElem? (i := 835) (by decide +kernel)⟩
theorem lw_p23 : lw_okq (⟨"LoggerTwinsModel", "sizeOf", "(I)I"⟩, 26) := ⟨⟨by decide +kernel, by decide +kernel⟩, List.mem_of_getElem? (i := 701) (by decide +kernel), List.mem_of_getElem? (i := 838) (by decide +kernel), List.mem_of_getElem? (i := 839) (by decide +kernel)⟩
theorem lw_p24 : lw_okq (⟨"LoggerTwinsModel", "askFault", "(IJI)I"⟩, 26) := ⟨⟨by decide +kernel, by decide +kernel⟩, List.mem_of_getElem? (i := 701) (by decide +kernel), List.mem_of_getElem? (i := 849) (by decide +kernel), List.mem_of_getElem? (i := 850) (by decide +kernel)⟩
theorem lw_p25 : lw_okq (⟨"LoggerTwinsModel", "cellFault", "(IJ)I"⟩, 26) := ⟨⟨by decide +kernel, by decide +kernel⟩, List.mem_of_getElem? (i := 701) (by decide +kernel), List.mem_of_getElem? (i := 853) (by decide +kernel), List.mem_of_getElem? (i := 854) (by decide +kernel)⟩
theorem lw_p26 : lw_okq (⟨"LoggerTwinsModel", "amountOf", "(II)J"⟩, 26) := ⟨⟨by decide +kernel, by decide +kernel⟩, List.mem_of_getElem? (i := 701) (by decide +kernel), List.mem_of_getElem? (i := 863) (by decide +kernel), List.mem_of_getElem? (i := 864) (by decide +kernel)⟩
theorem lw_p27 : lw_okq (⟨"LoggerTwinsModel", "fractionOf", "(II)D"⟩, 26) := ⟨⟨by decide +kernel, by decide +kernel⟩, List.mem_of_getElem? (i := 701) (by decide +kernel), List.mem_of_getElem? (i := 867) (by decide +kernel), List.mem_of_getElem? (i := 868) (by decide +kernel)⟩
theorem lw_p28 : lw_okq (⟨"LoggerTwinsModel", "putFault", "(IJI)I"⟩, 26) := ⟨⟨by decide +kernel, by decide +kernel⟩, List.mem_of_getElem? (i := 701) (by decide +kernel), List.mem_of_getElem? (i := 906) (by decide +kernel), List.mem_of_getElem? (i := 907) (by decide +kernel)⟩
theorem lw_p29 : lw_okq (⟨"LoggerTwinsModel", "laysValue", "(IIII)V"⟩, 26) := ⟨⟨by decide +kernel, by decide +kernel⟩, List.mem_of_getElem? (i := 701) (by decide +kernel), List.mem_of_getElem? (i := 910) (by decide +kernel), List.mem_of_getElem? (i := 911) (by decide +kernel)⟩
theorem lw_p30 : lw_okq (⟨"LoggerTwinsModel", "values", "(III)V"⟩, 26) := ⟨⟨by decide +kernel, by decide +kernel⟩, List.mem_of_getElem? (i := 701) (by decide +kernel), List.mem_of_getElem? (i := 914) (by decide +kernel), List.mem_of_getElem? (i := 915) (by decide +kernel)⟩
theorem lw_p31 : lw_okq (⟨"LoggerTwinsModel", "widens", "(III)V"⟩, 26) := ⟨⟨by decide +kernel, by decide +kernel⟩, List.mem_of_getElem? (i := 701) (by decide +kernel), List.mem_of_getElem? (i := 921) (by decide +kernel), List.mem_of_getElem? (i := 922) (by decide +kernel)⟩
def lw_privs_2 : List (MethodName × Nat) := [(⟨"LoggerTwinsModel", "takesRow", "(III)V"⟩, 26), (⟨"LoggerTwinsModel", "isHeld", "(I)Z"⟩, 26), (⟨"LoggerTwinsModel", "cellAt", "(II)I"⟩, 26), (⟨"LoggerTwinsModel", "lays", "(IIJD)V"⟩, 26), (⟨"LoggerTwinsModel", "kindOf", "(I)I"⟩, 26), (⟨"LoggerTwinsModel", "firstOf", "(I)I"⟩, 26), (⟨"LoggerTwinsModel", "rowFault", "(I)I"⟩, 26), (⟨"LoggerTwinsModel", "sizeOf", "(I)I"⟩, 26), (⟨"LoggerTwinsModel", "askFault", "(IJI)I"⟩, 26), (⟨"LoggerTwinsModel", "cellFault", "(IJ)I"⟩, 26), (⟨"LoggerTwinsModel", "amountOf", "(II)J"⟩, 26), (⟨"LoggerTwinsModel", "fractionOf", "(II)D"⟩, 26), (⟨"LoggerTwinsModel", "putFault", "(IJI)I"⟩, 26), (⟨"LoggerTwinsModel", "laysValue", "(IIII)V"⟩, 26), (⟨"LoggerTwinsModel", "values", "(III)V"⟩, 26), (⟨"LoggerTwinsModel", "widens", "(III)V"⟩, 26)]
theorem lw_r2 : ∀ q ∈ lw_privs_2, lw_okq q := List.forall_mem_cons.mpr ⟨lw_p16, List.forall_mem_cons.mpr ⟨lw_p17, List.forall_mem_cons.mpr ⟨lw_p18, List.forall_mem_cons.mpr ⟨lw_p19, List.forall_mem_cons.mpr ⟨lw_p20, List.forall_mem_cons.mpr ⟨lw_p21, List.forall_mem_cons.mpr ⟨lw_p22, List.forall_mem_cons.mpr ⟨lw_p23, List.forall_mem_cons.mpr ⟨lw_p24, List.forall_mem_cons.mpr ⟨lw_p25, List.forall_mem_cons.mpr ⟨lw_p26, List.forall_mem_cons.mpr ⟨lw_p27, List.forall_mem_cons.mpr ⟨lw_p28, List.forall_mem_cons.mpr ⟨lw_p29, List.forall_mem_cons.mpr ⟨lw_p30, List.forall_mem_cons.mpr ⟨lw_p31, fun _ h => absurd h List.not_mem_nil⟩⟩⟩⟩⟩⟩⟩⟩⟩⟩⟩⟩⟩⟩⟩⟩
theorem lw_p32 : lw_okq (⟨"LoggerTwinsModel", "layFault", "(IJI)I"⟩, 26) := ⟨⟨by decide +kernel, by decide +kernel⟩, List.mem_of_getElem? (i := 701) (by decide +kernel), List.mem_of_getElem? (i := 933) (by decide +kernel), List.mem_of_getElem? (i := 934) (by decide +kernel)⟩
theorem lw_p33 : lw_okq (⟨"LoggerTwinsModel", "moves", "(IJIJ)I"⟩, 26) := ⟨⟨by decide +kernel, by decide +kernel⟩, List.mem_of_getElem? (i := 701) (by decide +kernel), List.mem_of_getElem? (i := 946) (by decide +kernel), List.mem_of_getElem? (i := 947) (by decide +kernel)⟩
theorem lw_p34 : lw_okq (⟨"LoggerTwinsModel", "summed", "(II)J"⟩, 26) := ⟨⟨by decide +kernel, by decide +kernel⟩, List.mem_of_getElem? (i := 701) (by decide +kernel), List.mem_of_getElem? (i := 961) (by decide +kernel), List.mem_of_getElem? (i := 962) (by decide +kernel)⟩
theorem lw_p35 : lw_okq (⟨"LoggerTwinsModel", "likeness", "(II)I"⟩, 26) := ⟨⟨by decide +kernel, by decide +kernel⟩, List.mem_of_getElem? (i := 701) (by decide +kernel), List.mem_of_getElem? (i := 976) (by decide +kernel), List.mem_of_getElem? (i := 977) (by decide +kernel)⟩
theorem lw_p36 : lw_okq (⟨"LoggerTwinsModel", "areAlike", "(II)Z"⟩, 26) := ⟨⟨by decide +kernel, by decide +kernel⟩, List.mem_of_getElem? (i := 701) (by decide +kernel), List.mem_of_getElem? (i := 980) (by decide +kernel), List.mem_of_getElem? (i := 981) (by decide +kernel)⟩
theorem lw_p37 : lw_okq (⟨"LoggerTwinsModel", "areNear", "(II)Z"⟩, 26) := ⟨⟨by decide +kernel, by decide +kernel⟩, List.mem_of_getElem? (i := 701) (by decide +kernel), List.mem_of_getElem? (i := 987) (by decide +kernel), List.mem_of_getElem? (i := 988) (by decide +kernel)⟩
theorem lw_p38 : lw_okq (⟨"LoggerTwinsModel", "rowsFault", "(II)I"⟩, 26) := ⟨⟨by decide +kernel, by decide +kernel⟩, List.mem_of_getElem? (i := 701) (by decide +kernel), List.mem_of_getElem? (i := 995) (by decide +kernel), List.mem_of_getElem? (i := 996) (by decide +kernel)⟩
theorem lw_p39 : lw_okq (⟨"LoggerTwinsModel", "copiesRow", "(II)V"⟩, 26) := ⟨⟨by decide +kernel, by decide +kernel⟩, List.mem_of_getElem? (i := 701) (by decide +kernel), List.mem_of_getElem? (i := 999) (by decide +kernel), List.mem_of_getElem? (i := 1000) (by decide +kernel)⟩
theorem lw_p40 : lw_okq (⟨"LoggerTwinsModel", "copiesCell", "(II)V"⟩, 26) := ⟨⟨by decide +kernel, by decide +kernel⟩, List.mem_of_getElem? (i := 701) (by decide +kernel), List.mem_of_getElem? (i := 1003) (by decide +kernel), List.mem_of_getElem? (i := 1004) (by decide +kernel)⟩
theorem lw_p41 : lw_okq (⟨"LoggerTwinsModel", "pathCosts", "(II)I"⟩, 26) := ⟨⟨by decide +kernel, by decide +kernel⟩, List.mem_of_getElem? (i := 701) (by decide +kernel), List.mem_of_getElem? (i := 1007) (by decide +kernel), List.mem_of_getElem? (i := 1008) (by decide +kernel)⟩
theorem lw_p42 : lw_okq (⟨"LoggerTwinsModel", "aloneCosts", "(II)I"⟩, 26) := ⟨⟨by decide +kernel, by decide +kernel⟩, List.mem_of_getElem? (i := 701) (by decide +kernel), List.mem_of_getElem? (i := 1012) (by decide +kernel), List.mem_of_getElem? (i := 1013) (by decide +kernel)⟩
theorem lw_p43 : lw_okq (⟨"LoggerTwinsModel", "isTwice", "(II)Z"⟩, 26) := ⟨⟨by decide +kernel, by decide +kernel⟩, List.mem_of_getElem? (i := 701) (by decide +kernel), List.mem_of_getElem? (i := 1016) (by decide +kernel), List.mem_of_getElem? (i := 1017) (by decide +kernel)⟩
theorem lw_p44 : lw_okq (⟨"LoggerTwinsModel", "besideCosts", "(II)I"⟩, 26) := ⟨⟨by decide +kernel, by decide +kernel⟩, List.mem_of_getElem? (i := 701) (by decide +kernel), List.mem_of_getElem? (i := 1023) (by decide +kernel), List.mem_of_getElem? (i := 1024) (by decide +kernel)⟩
theorem lw_p45 : lw_okq (⟨"LoggerTwinsModel", "findSteps", "()V"⟩, 26) := ⟨⟨by decide +kernel, by decide +kernel⟩, List.mem_of_getElem? (i := 701) (by decide +kernel), List.mem_of_getElem? (i := 1027) (by decide +kernel), List.mem_of_getElem? (i := 1028) (by decide +kernel)⟩
theorem lw_p46 : lw_okq (⟨"LoggerTwinsModel", "goesStep", "(IIIIZ)V"⟩, 26) := ⟨⟨by decide +kernel, by decide +kernel⟩, List.mem_of_getElem? (i := 701) (by decide +kernel), List.mem_of_getElem? (i := 1031) (by decide +kernel), List.mem_of_getElem? (i := 1032) (by decide +kernel)⟩
theorem lw_p47 : lw_okq (⟨"LoggerTwinsModel", "seesNear", "()V"⟩, 26) := ⟨⟨by decide +kernel, by decide +kernel⟩, List.mem_of_getElem? (i := 701) (by decide +kernel), List.mem_of_getElem? (i := 1035) (by decide +kernel), List.mem_of_getElem? (i := 1036) (by decide +kernel)⟩
def lw_privs_3 : List (MethodName × Nat) := [(⟨"LoggerTwinsModel", "layFault", "(IJI)I"⟩, 26), (⟨"LoggerTwinsModel", "moves", "(IJIJ)I"⟩, 26), (⟨"LoggerTwinsModel", "summed", "(II)J"⟩, 26), (⟨"LoggerTwinsModel", "likeness", "(II)I"⟩, 26), (⟨"LoggerTwinsModel", "areAlike", "(II)Z"⟩, 26), (⟨"LoggerTwinsModel", "areNear", "(II)Z"⟩, 26), (⟨"LoggerTwinsModel", "rowsFault", "(II)I"⟩, 26), (⟨"LoggerTwinsModel", "copiesRow", "(II)V"⟩, 26), (⟨"LoggerTwinsModel", "copiesCell", "(II)V"⟩, 26), (⟨"LoggerTwinsModel", "pathCosts", "(II)I"⟩, 26), (⟨"LoggerTwinsModel", "aloneCosts", "(II)I"⟩, 26), (⟨"LoggerTwinsModel", "isTwice", "(II)Z"⟩, 26), (⟨"LoggerTwinsModel", "besideCosts", "(II)I"⟩, 26), (⟨"LoggerTwinsModel", "findSteps", "()V"⟩, 26), (⟨"LoggerTwinsModel", "goesStep", "(IIIIZ)V"⟩, 26), (⟨"LoggerTwinsModel", "seesNear", "()V"⟩, 26)]
theorem lw_r3 : ∀ q ∈ lw_privs_3, lw_okq q := List.forall_mem_cons.mpr ⟨lw_p32, List.forall_mem_cons.mpr ⟨lw_p33, List.forall_mem_cons.mpr ⟨lw_p34, List.forall_mem_cons.mpr ⟨lw_p35, List.forall_mem_cons.mpr ⟨lw_p36, List.forall_mem_cons.mpr ⟨lw_p37, List.forall_mem_cons.mpr ⟨lw_p38, List.forall_mem_cons.mpr ⟨lw_p39, List.forall_mem_cons.mpr ⟨lw_p40, List.forall_mem_cons.mpr ⟨lw_p41, List.forall_mem_cons.mpr ⟨lw_p42, List.forall_mem_cons.mpr ⟨lw_p43, List.forall_mem_cons.mpr ⟨lw_p44, List.forall_mem_cons.mpr ⟨lw_p45, List.forall_mem_cons.mpr ⟨lw_p46, List.forall_mem_cons.mpr ⟨lw_p47, fun _ h => absurd h List.not_mem_nil⟩⟩⟩⟩⟩⟩⟩⟩⟩⟩⟩⟩⟩⟩⟩⟩
theorem lw_p48 : lw_okq (⟨"LoggerTwinsModel", "besides", "(I)I"⟩, 26) := ⟨⟨by decide +kernel, by decide +kernel⟩, List.mem_of_getElem? (i := 701) (by decide +kernel), List.mem_of_getElem? (i := 1043) (by decide +kernel), List.mem_of_getElem? (i := 1044) (by decide +kernel)⟩
theorem lw_p49 : lw_okq (⟨"LoggerTwinsModel", "stepLikeness", "(I)I"⟩, 26) := ⟨⟨by decide +kernel, by decide +kernel⟩, List.mem_of_getElem? (i := 701) (by decide +kernel), List.mem_of_getElem? (i := 1047) (by decide +kernel), List.mem_of_getElem? (i := 1048) (by decide +kernel)⟩
theorem lw_p50 : lw_okq (⟨"LoggerTwinsModel", "withWhich", "(I)I"⟩, 26) := ⟨⟨by decide +kernel, by decide +kernel⟩, List.mem_of_getElem? (i := 701) (by decide +kernel), List.mem_of_getElem? (i := 1051) (by decide +kernel), List.mem_of_getElem? (i := 1052) (by decide +kernel)⟩
theorem lw_p51 : lw_okq (⟨"LoggerTwinsModel", "doubles", "()I"⟩, 26) := ⟨⟨by decide +kernel, by decide +kernel⟩, List.mem_of_getElem? (i := 701) (by decide +kernel), List.mem_of_getElem? (i := 1055) (by decide +kernel), List.mem_of_getElem? (i := 1056) (by decide +kernel)⟩
theorem lw_p52 : lw_okq (⟨"LoggerTwinsModel", "joinedKind", "()I"⟩, 26) := ⟨⟨by decide +kernel, by decide +kernel⟩, List.mem_of_getElem? (i := 701) (by decide +kernel), List.mem_of_getElem? (i := 1059) (by decide +kernel), List.mem_of_getElem? (i := 1060) (by decide +kernel)⟩
theorem lw_p53 : lw_okq (⟨"LoggerTwinsModel", "makesBeside", "(IIII)V"⟩, 26) := ⟨⟨by decide +kernel, by decide +kernel⟩, List.mem_of_getElem? (i := 701) (by decide +kernel), List.mem_of_getElem? (i := 1072) (by decide +kernel), List.mem_of_getElem? (i := 1073) (by decide +kernel)⟩
theorem lw_p54 : lw_okq (⟨"LoggerTwinsModel", "laysMean", "(III)V"⟩, 26) := ⟨⟨by decide +kernel, by decide +kernel⟩, List.mem_of_getElem? (i := 701) (by decide +kernel), List.mem_of_getElem? (i := 1076) (by decide +kernel), List.mem_of_getElem? (i := 1077) (by decide +kernel)⟩
theorem lw_p55 : lw_okq (⟨"LoggerTwinsModel", "takesMade", "(III)V"⟩, 26) := ⟨⟨by decide +kernel, by decide +kernel⟩, List.mem_of_getElem? (i := 701) (by decide +kernel), List.mem_of_getElem? (i := 1085) (by decide +kernel), List.mem_of_getElem? (i := 1086) (by decide +kernel)⟩
theorem lw_p56 : lw_okq (⟨"LoggerTwinsModel", "alikeBy", "(III)I"⟩, 26) := ⟨⟨by decide +kernel, by decide +kernel⟩, List.mem_of_getElem? (i := 701) (by decide +kernel), List.mem_of_getElem? (i := 1097) (by decide +kernel), List.mem_of_getElem? (i := 1098) (by decide +kernel)⟩
theorem lw_p57 : lw_okq (⟨"LoggerTwinsModel", "actFault", "(II)I"⟩, 26) := ⟨⟨by decide +kernel, by decide +kernel⟩, List.mem_of_getElem? (i := 701) (by decide +kernel), List.mem_of_getElem? (i := 1124) (by decide +kernel), List.mem_of_getElem? (i := 1125) (by decide +kernel)⟩
theorem lw_p58 : lw_okq (⟨"LoggerTwinsModel", "strays", "(I)V"⟩, 26) := ⟨⟨by decide +kernel, by decide +kernel⟩, List.mem_of_getElem? (i := 701) (by decide +kernel), List.mem_of_getElem? (i := 1133) (by decide +kernel), List.mem_of_getElem? (i := 1134) (by decide +kernel)⟩
theorem lw_p59 : lw_okq (⟨"LoggerTwinsModel", "rowsHeld", "()I"⟩, 26) := ⟨⟨by decide +kernel, by decide +kernel⟩, List.mem_of_getElem? (i := 701) (by decide +kernel), List.mem_of_getElem? (i := 1151) (by decide +kernel), List.mem_of_getElem? (i := 1152) (by decide +kernel)⟩
theorem lw_p60 : lw_okq (⟨"LoggerTwinsModel", "ofRows", "(I)I"⟩, 26) := ⟨⟨by decide +kernel, by decide +kernel⟩, List.mem_of_getElem? (i := 701) (by decide +kernel), List.mem_of_getElem? (i := 1159) (by decide +kernel), List.mem_of_getElem? (i := 1160) (by decide +kernel)⟩
def lw_privs_4 : List (MethodName × Nat) := [(⟨"LoggerTwinsModel", "besides", "(I)I"⟩, 26), (⟨"LoggerTwinsModel", "stepLikeness", "(I)I"⟩, 26), (⟨"LoggerTwinsModel", "withWhich", "(I)I"⟩, 26), (⟨"LoggerTwinsModel", "doubles", "()I"⟩, 26), (⟨"LoggerTwinsModel", "joinedKind", "()I"⟩, 26), (⟨"LoggerTwinsModel", "makesBeside", "(IIII)V"⟩, 26), (⟨"LoggerTwinsModel", "laysMean", "(III)V"⟩, 26), (⟨"LoggerTwinsModel", "takesMade", "(III)V"⟩, 26), (⟨"LoggerTwinsModel", "alikeBy", "(III)I"⟩, 26), (⟨"LoggerTwinsModel", "actFault", "(II)I"⟩, 26), (⟨"LoggerTwinsModel", "strays", "(I)V"⟩, 26), (⟨"LoggerTwinsModel", "rowsHeld", "()I"⟩, 26), (⟨"LoggerTwinsModel", "ofRows", "(I)I"⟩, 26)]
theorem lw_r4 : ∀ q ∈ lw_privs_4, lw_okq q := List.forall_mem_cons.mpr ⟨lw_p48, List.forall_mem_cons.mpr ⟨lw_p49, List.forall_mem_cons.mpr ⟨lw_p50, List.forall_mem_cons.mpr ⟨lw_p51, List.forall_mem_cons.mpr ⟨lw_p52, List.forall_mem_cons.mpr ⟨lw_p53, List.forall_mem_cons.mpr ⟨lw_p54, List.forall_mem_cons.mpr ⟨lw_p55, List.forall_mem_cons.mpr ⟨lw_p56, List.forall_mem_cons.mpr ⟨lw_p57, List.forall_mem_cons.mpr ⟨lw_p58, List.forall_mem_cons.mpr ⟨lw_p59, List.forall_mem_cons.mpr ⟨lw_p60, fun _ h => absurd h List.not_mem_nil⟩⟩⟩⟩⟩⟩⟩⟩⟩⟩⟩⟩⟩
def lw_privs : List (MethodName × Nat) := lw_privs_1 ++ (lw_privs_2 ++ (lw_privs_3 ++ (lw_privs_4)))
def lw_tbl : List Cond := k2_sels lw_privs ++ tables_1
theorem lw_privs_ok : ∀ q ∈ lw_privs, lw_okq q := by
  show ∀ q ∈ lw_privs_1 ++ (lw_privs_2 ++ (lw_privs_3 ++ (lw_privs_4))), lw_okq q
  exact List.forall_mem_append.mpr ⟨lw_r1, List.forall_mem_append.mpr ⟨lw_r2, List.forall_mem_append.mpr ⟨lw_r3, lw_r4⟩⟩⟩
/-- the streams that the claim lets the run draw from -/
abbrev lw_cs : List Choice := [Jvm.Choice.named "NaN.bits"]
theorem lw_bits : nanBits ∈ lw_cs := by first | decide | exact List.mem_cons_self | simp [lw_cs, nanBits]
end
section
def RX0 : String := "LoggerTwins$Aligner"
def TX0 : u_T := fun k => match k with
  | 0 => ("LoggerTwins$Aligner", "leftVerdicts", "[I", true)
  | 1 => ("LoggerTwins$Aligner", "rightVerdicts", "[I", true)
  | 2 => ("LoggerTwins$Aligner", "pairVerdicts", "[[I", true)
  | _ => ("LoggerTwins$Aligner", "rest", "[[I", true)
def tyX0 : Nat → FieldType := fun k => match k with
  | 0 => .array .int
  | 1 => .array .int
  | 2 => .array (.array .int)
  | _ => .array (.array .int)
theorem nmX0 : ∀ a, a < 4 → ∀ b, b < 4 → a ≠ b → (TX0 a).2.1 ≠ (TX0 b).2.1 := by decide +kernel
theorem tyX0_ok : ∀ k, k < 4 → parseFieldDescriptor (TX0 k).2.2.1 = some (tyX0 k) := by decide +kernel
abbrev cX0_init : ByteArray := prog_2_method_1_code
def yX0_init : MethodName := ⟨RX0, "<init>", "()V"⟩
abbrev cX0_costOf : ByteArray := prog_2_method_2_code
def yX0_costOf : MethodName := ⟨RX0, "costOf", "(I[I)I"⟩
abbrev cX0_judgeAlone : ByteArray := prog_2_method_3_code
def yX0_judgeAlone : MethodName := ⟨RX0, "judgeAlone", "(LLoggerTwins$Cells;[I)V"⟩
abbrev cX0_leastCost : ByteArray := prog_2_method_4_code
def yX0_leastCost : MethodName := ⟨RX0, "leastCost", "(LLoggerTwins$Cells;LLoggerTwins$Cells;[I)I"⟩
abbrev cX0_pairCost : ByteArray := prog_2_method_5_code
def yX0_pairCost : MethodName := ⟨RX0, "pairCost", "(II[I)I"⟩
abbrev cX0_leftCost : ByteArray := prog_2_method_6_code
def yX0_leftCost : MethodName := ⟨RX0, "leftCost", "(II[I)I"⟩
abbrev cX0_rightCost : ByteArray := prog_2_method_7_code
def yX0_rightCost : MethodName := ⟨RX0, "rightCost", "(II[I)I"⟩
abbrev cX0_traceSteps : ByteArray := prog_2_method_8_code
def yX0_traceSteps : MethodName := ⟨RX0, "traceSteps", "(LLoggerTwins$Comparison;[I)V"⟩
def RX1 : String := "LoggerTwins$Application"
def TX1 : u_T := fun k => match k with
  | 0 => ("LoggerTwins$Application", "patch", "LLoggerTwins$Patch;", true)
  | 1 => ("LoggerTwins$Application", "source", "LLoggerTwins$Cells;", true)
  | 2 => ("LoggerTwins$Application", "made", "LLoggerTwins$Cells;", true)
  | 3 => ("LoggerTwins$Application", "taken", "I", false)
  | 4 => ("LoggerTwins$Application", "added", "I", false)
  | _ => ("LoggerTwins$Application", "fault", "I", false)
def tyX1 : Nat → FieldType := fun k => match k with
  | 0 => .object "LoggerTwins$Patch"
  | 1 => .object "LoggerTwins$Cells"
  | 2 => .object "LoggerTwins$Cells"
  | 3 => .int
  | 4 => .int
  | _ => .int
theorem nmX1 : ∀ a, a < 6 → ∀ b, b < 6 → a ≠ b → (TX1 a).2.1 ≠ (TX1 b).2.1 := by decide +kernel
theorem tyX1_ok : ∀ k, k < 6 → parseFieldDescriptor (TX1 k).2.2.1 = some (tyX1 k) := by decide +kernel
abbrev cX1_init : ByteArray := prog_3_method_1_code
def yX1_init : MethodName := ⟨RX1, "<init>", "(LLoggerTwins$Patch;LLoggerTwins$Cells;)V"⟩
abbrev cX1_run : ByteArray := prog_3_method_2_code
def yX1_run : MethodName := ⟨RX1, "run", "()I"⟩
abbrev cX1_faultOf : ByteArray := prog_3_method_3_code
def yX1_faultOf : MethodName := ⟨RX1, "faultOf", "(I)I"⟩
abbrev cX1_perform : ByteArray := prog_3_method_4_code
def yX1_perform : MethodName := ⟨RX1, "perform", "(I)V"⟩
def RX2 : String := "LoggerTwins$Bits"
def TX2 : u_T := fun k => match k with
  | _ => ("", "", "", false)
def tyX2 : Nat → FieldType := fun k => match k with
  | _ => .int
theorem nmX2 : ∀ a, a < 0 → ∀ b, b < 0 → a ≠ b → (TX2 a).2.1 ≠ (TX2 b).2.1 := by decide +kernel
theorem tyX2_ok : ∀ k, k < 0 → parseFieldDescriptor (TX2 k).2.2.1 = some (tyX2 k) := by decide +kernel
abbrev cX2_ofFloat : ByteArray := prog_4_method_2_code
def yX2_ofFloat : MethodName := ⟨RX2, "ofFloat", "(D)J"⟩
abbrev cX2_ofDouble : ByteArray := prog_4_method_3_code
def yX2_ofDouble : MethodName := ⟨RX2, "ofDouble", "(D)J"⟩
abbrev cX2_ofSize : ByteArray := prog_4_method_4_code
def yX2_ofSize : MethodName := ⟨RX2, "ofSize", "(DII)J"⟩
def RX3 : String := "LoggerTwins$Cells"
def TX3 : u_T := fun k => match k with
  | 0 => ("LoggerTwins$Cells", "kind", "I", true)
  | 1 => ("LoggerTwins$Cells", "length", "I", true)
  | 2 => ("LoggerTwins$Cells", "sorts", "[I", true)
  | 3 => ("LoggerTwins$Cells", "wholes", "[J", true)
  | _ => ("LoggerTwins$Cells", "reals", "[D", true)
def tyX3 : Nat → FieldType := fun k => match k with
  | 0 => .int
  | 1 => .int
  | 2 => .array .int
  | 3 => .array .long
  | _ => .array .double
theorem nmX3 : ∀ a, a < 5 → ∀ b, b < 5 → a ≠ b → (TX3 a).2.1 ≠ (TX3 b).2.1 := by decide +kernel
theorem tyX3_ok : ∀ k, k < 5 → parseFieldDescriptor (TX3 k).2.2.1 = some (tyX3 k) := by decide +kernel
abbrev cX3_init : ByteArray := prog_5_method_1_code
def yX3_init : MethodName := ⟨RX3, "<init>", "(II)V"⟩
abbrev cX3_copy : ByteArray := prog_5_method_2_code
def yX3_copy : MethodName := ⟨RX3, "copy", "()LLoggerTwins$Cells;"⟩
abbrev cX3_setWhole : ByteArray := prog_5_method_3_code
def yX3_setWhole : MethodName := ⟨RX3, "setWhole", "(IIJ)V"⟩
abbrev cX3_setReal : ByteArray := prog_5_method_4_code
def yX3_setReal : MethodName := ⟨RX3, "setReal", "(IID)V"⟩
abbrev cX3_setValue : ByteArray := prog_5_method_5_code
def yX3_setValue : MethodName := ⟨RX3, "setValue", "(III)V"⟩
abbrev cX3_wholeOf : ByteArray := prog_5_method_6_code
def yX3_wholeOf : MethodName := ⟨RX3, "wholeOf", "(IJ)J"⟩
abbrev cX3_take : ByteArray := prog_5_method_7_code
def yX3_take : MethodName := ⟨RX3, "take", "(ILLoggerTwins$Cells;I)V"⟩
abbrev cX3_realAs : ByteArray := prog_5_method_8_code
def yX3_realAs : MethodName := ⟨RX3, "realAs", "(II)D"⟩
abbrev cX3_amountAs : ByteArray := prog_5_method_9_code
def yX3_amountAs : MethodName := ⟨RX3, "amountAs", "(II)J"⟩
abbrev cX3_falsify : ByteArray := prog_5_method_10_code
def yX3_falsify : MethodName := ⟨RX3, "falsify", "(I)V"⟩
abbrev cX3_total : ByteArray := prog_5_method_11_code
def yX3_total : MethodName := ⟨RX3, "total", "(I)J"⟩
abbrev cX3_wholeTotal : ByteArray := prog_5_method_12_code
def yX3_wholeTotal : MethodName := ⟨RX3, "wholeTotal", "()J"⟩
abbrev cX3_floatTotal : ByteArray := prog_5_method_13_code
def yX3_floatTotal : MethodName := ⟨RX3, "floatTotal", "()F"⟩
abbrev cX3_doubleTotal : ByteArray := prog_5_method_14_code
def yX3_doubleTotal : MethodName := ⟨RX3, "doubleTotal", "()D"⟩
abbrev cX3_setMean : ByteArray := prog_5_method_15_code
def yX3_setMean : MethodName := ⟨RX3, "setMean", "(IILLoggerTwins$Cells;ILLoggerTwins$Cells;I)V"⟩
abbrev cX3_isDuplicate : ByteArray := prog_5_method_16_code
def yX3_isDuplicate : MethodName := ⟨RX3, "isDuplicate", "(I)Z"⟩
abbrev cX3_nulls : ByteArray := prog_5_method_17_code
def yX3_nulls : MethodName := ⟨RX3, "nulls", "()I"⟩
def RX4 : String := "LoggerTwins$Comparison"
def TX4 : u_T := fun k => match k with
  | 0 => ("LoggerTwins$Comparison", "left", "LLoggerTwins$Cells;", true)
  | 1 => ("LoggerTwins$Comparison", "right", "LLoggerTwins$Cells;", true)
  | 2 => ("LoggerTwins$Comparison", "cost", "I", true)
  | 3 => ("LoggerTwins$Comparison", "steps", "[I", true)
  | 4 => ("LoggerTwins$Comparison", "lefts", "[I", true)
  | 5 => ("LoggerTwins$Comparison", "rights", "[I", true)
  | 6 => ("LoggerTwins$Comparison", "verdicts", "[I", true)
  | 7 => ("LoggerTwins$Comparison", "costs", "[I", true)
  | _ => ("LoggerTwins$Comparison", "count", "I", false)
def tyX4 : Nat → FieldType := fun k => match k with
  | 0 => .object "LoggerTwins$Cells"
  | 1 => .object "LoggerTwins$Cells"
  | 2 => .int
  | 3 => .array .int
  | 4 => .array .int
  | 5 => .array .int
  | 6 => .array .int
  | 7 => .array .int
  | _ => .int
theorem nmX4 : ∀ a, a < 9 → ∀ b, b < 9 → a ≠ b → (TX4 a).2.1 ≠ (TX4 b).2.1 := by decide +kernel
theorem tyX4_ok : ∀ k, k < 9 → parseFieldDescriptor (TX4 k).2.2.1 = some (tyX4 k) := by decide +kernel
abbrev cX4_init : ByteArray := prog_6_method_1_code
def yX4_init : MethodName := ⟨RX4, "<init>", "(LLoggerTwins$Cells;LLoggerTwins$Cells;I)V"⟩
abbrev cX4_add : ByteArray := prog_6_method_2_code
def yX4_add : MethodName := ⟨RX4, "add", "(IIIII)V"⟩
abbrev cX4_hasLeft : ByteArray := prog_6_method_3_code
def yX4_hasLeft : MethodName := ⟨RX4, "hasLeft", "(I)Z"⟩
abbrev cX4_hasRight : ByteArray := prog_6_method_4_code
def yX4_hasRight : MethodName := ⟨RX4, "hasRight", "(I)Z"⟩
abbrev cX4_stepsOf : ByteArray := prog_6_method_5_code
def yX4_stepsOf : MethodName := ⟨RX4, "stepsOf", "(I)I"⟩
abbrev cX4_verdictsOf : ByteArray := prog_6_method_6_code
def yX4_verdictsOf : MethodName := ⟨RX4, "verdictsOf", "(I)I"⟩
abbrev cX4_mergedKind : ByteArray := prog_6_method_7_code
def yX4_mergedKind : MethodName := ⟨RX4, "mergedKind", "()I"⟩
abbrev cX4_mergedLength : ByteArray := prog_6_method_8_code
def yX4_mergedLength : MethodName := ⟨RX4, "mergedLength", "()I"⟩
abbrev cX4_merged : ByteArray := prog_6_method_9_code
def yX4_merged : MethodName := ⟨RX4, "merged", "(I)LLoggerTwins$Cells;"⟩
abbrev cX4_mergeMean : ByteArray := prog_6_method_10_code
def yX4_mergeMean : MethodName := ⟨RX4, "mergeMean", "(LLoggerTwins$Cells;III)V"⟩
def RX5 : String := "LoggerTwins$Kinds"
def TX5 : u_T := fun k => match k with
  | _ => ("", "", "", false)
def tyX5 : Nat → FieldType := fun k => match k with
  | _ => .int
theorem nmX5 : ∀ a, a < 0 → ∀ b, b < 0 → a ≠ b → (TX5 a).2.1 ≠ (TX5 b).2.1 := by decide +kernel
theorem tyX5_ok : ∀ k, k < 0 → parseFieldDescriptor (TX5 k).2.2.1 = some (tyX5 k) := by decide +kernel
abbrev cX5_fits : ByteArray := prog_7_method_2_code
def yX5_fits : MethodName := ⟨RX5, "fits", "(II)Z"⟩
abbrev cX5_joined : ByteArray := prog_7_method_3_code
def yX5_joined : MethodName := ⟨RX5, "joined", "(II)I"⟩
abbrev cX5_isReal : ByteArray := prog_7_method_4_code
def yX5_isReal : MethodName := ⟨RX5, "isReal", "(I)Z"⟩
def RX6 : String := "LoggerTwins$Match"
def TX6 : u_T := fun k => match k with
  | _ => ("", "", "", false)
def tyX6 : Nat → FieldType := fun k => match k with
  | _ => .int
theorem nmX6 : ∀ a, a < 0 → ∀ b, b < 0 → a ≠ b → (TX6 a).2.1 ≠ (TX6 b).2.1 := by decide +kernel
theorem tyX6_ok : ∀ k, k < 0 → parseFieldDescriptor (TX6 k).2.2.1 = some (tyX6 k) := by decide +kernel
abbrev cX6_verdict : ByteArray := prog_8_method_2_code
def yX6_verdict : MethodName := ⟨RX6, "verdict", "(LLoggerTwins$Cells;ILLoggerTwins$Cells;II)I"⟩
abbrev cX6_ofReals : ByteArray := prog_8_method_3_code
def yX6_ofReals : MethodName := ⟨RX6, "ofReals", "(DDI)I"⟩
abbrev cX6_isClose : ByteArray := prog_8_method_4_code
def yX6_isClose : MethodName := ⟨RX6, "isClose", "(JJI)Z"⟩
abbrev cX6_isAlike : ByteArray := prog_8_method_5_code
def yX6_isAlike : MethodName := ⟨RX6, "isAlike", "(LLoggerTwins$Cells;ILLoggerTwins$Cells;I)Z"⟩
abbrev cX6_alikeAtShift : ByteArray := prog_8_method_6_code
def yX6_alikeAtShift : MethodName := ⟨RX6, "alikeAtShift", "(LLoggerTwins$Cells;LLoggerTwins$Cells;I)I"⟩
def RX7 : String := "LoggerTwins$Patch"
def TX7 : u_T := fun k => match k with
  | 0 => ("LoggerTwins$Patch", "length", "I", true)
  | 1 => ("LoggerTwins$Patch", "acts", "[I", true)
  | 2 => ("LoggerTwins$Patch", "olds", "LLoggerTwins$Cells;", false)
  | _ => ("LoggerTwins$Patch", "news", "LLoggerTwins$Cells;", false)
def tyX7 : Nat → FieldType := fun k => match k with
  | 0 => .int
  | 1 => .array .int
  | 2 => .object "LoggerTwins$Cells"
  | _ => .object "LoggerTwins$Cells"
theorem nmX7 : ∀ a, a < 4 → ∀ b, b < 4 → a ≠ b → (TX7 a).2.1 ≠ (TX7 b).2.1 := by decide +kernel
theorem tyX7_ok : ∀ k, k < 4 → parseFieldDescriptor (TX7 k).2.2.1 = some (tyX7 k) := by decide +kernel
abbrev cX7_init : ByteArray := prog_9_method_1_code
def yX7_init : MethodName := ⟨RX7, "<init>", "(LLoggerTwins$Comparison;)V"⟩
abbrev cX7_actOf : ByteArray := prog_9_method_2_code
def yX7_actOf : MethodName := ⟨RX7, "actOf", "(II)I"⟩
abbrev cX7_hasOld : ByteArray := prog_9_method_3_code
def yX7_hasOld : MethodName := ⟨RX7, "hasOld", "(I)Z"⟩
abbrev cX7_hasNew : ByteArray := prog_9_method_4_code
def yX7_hasNew : MethodName := ⟨RX7, "hasNew", "(I)Z"⟩
abbrev cX7_actsOf : ByteArray := prog_9_method_5_code
def yX7_actsOf : MethodName := ⟨RX7, "actsOf", "(I)I"⟩
abbrev cX7_reverse : ByteArray := prog_9_method_6_code
def yX7_reverse : MethodName := ⟨RX7, "reverse", "()V"⟩
def RX8 : String := "LoggerTwins$Records"
def TX8 : u_T := fun k => match k with
  | 0 => ("LoggerTwins$Records", "arrays", "[LLoggerTwins$Cells;", true)
  | _ => ("LoggerTwins$Records", "singles", "[Z", true)
def tyX8 : Nat → FieldType := fun k => match k with
  | 0 => .array (.object "LoggerTwins$Cells")
  | _ => .array .boolean
theorem nmX8 : ∀ a, a < 2 → ∀ b, b < 2 → a ≠ b → (TX8 a).2.1 ≠ (TX8 b).2.1 := by decide +kernel
theorem tyX8_ok : ∀ k, k < 2 → parseFieldDescriptor (TX8 k).2.2.1 = some (tyX8 k) := by decide +kernel
abbrev cX8_init : ByteArray := prog_10_method_1_code
def yX8_init : MethodName := ⟨RX8, "<init>", "()V"⟩
abbrev cX8_hold : ByteArray := prog_10_method_2_code
def yX8_hold : MethodName := ⟨RX8, "hold", "(ILLoggerTwins$Cells;)V"⟩
abbrev cX8_holdSingle : ByteArray := prog_10_method_3_code
def yX8_holdSingle : MethodName := ⟨RX8, "holdSingle", "(I)V"⟩
abbrev cX8_holdSame : ByteArray := prog_10_method_4_code
def yX8_holdSame : MethodName := ⟨RX8, "holdSame", "(II)V"⟩
abbrev cX8_faultWithoutArray : ByteArray := prog_10_method_5_code
def yX8_faultWithoutArray : MethodName := ⟨RX8, "faultWithoutArray", "(I)I"⟩
abbrev cX8_leastHolder : ByteArray := prog_10_method_6_code
def yX8_leastHolder : MethodName := ⟨RX8, "leastHolder", "(LLoggerTwins$Cells;)I"⟩
abbrev cX8_isFirstHolder : ByteArray := prog_10_method_7_code
def yX8_isFirstHolder : MethodName := ⟨RX8, "isFirstHolder", "(I)Z"⟩
abbrev cX8_copy : ByteArray := prog_10_method_8_code
def yX8_copy : MethodName := ⟨RX8, "copy", "()LLoggerTwins$Records;"⟩
abbrev cX8_holders : ByteArray := prog_10_method_9_code
def yX8_holders : MethodName := ⟨RX8, "holders", "()I"⟩
abbrev cX8_distinct : ByteArray := prog_10_method_10_code
def yX8_distinct : MethodName := ⟨RX8, "distinct", "()I"⟩
abbrev cX8_distinctCells : ByteArray := prog_10_method_11_code
def yX8_distinctCells : MethodName := ⟨RX8, "distinctCells", "()I"⟩
abbrev cX8_distinctNulls : ByteArray := prog_10_method_12_code
def yX8_distinctNulls : MethodName := ⟨RX8, "distinctNulls", "()I"⟩
def RX9 : String := "LoggerTwins"
def TX9 : u_T := fun k => match k with
  | 0 => ("LoggerTwins", "images", "[LLoggerTwins$Records;", true)
  | 1 => ("LoggerTwins", "patches", "[LLoggerTwins$Patch;", true)
  | 2 => ("LoggerTwins", "rates", "[I", true)
  | 3 => ("LoggerTwins", "aligner", "LLoggerTwins$Aligner;", true)
  | 4 => ("LoggerTwins", "value", "LLoggerTwins$Cells;", true)
  | 5 => ("LoggerTwins", "records", "LLoggerTwins$Records;", false)
  | 6 => ("LoggerTwins", "comparison", "LLoggerTwins$Comparison;", false)
  | 7 => ("LoggerTwins", "lastAmount", "J", false)
  | _ => ("LoggerTwins", "lastFault", "I", false)
def tyX9 : Nat → FieldType := fun k => match k with
  | 0 => .array (.object "LoggerTwins$Records")
  | 1 => .array (.object "LoggerTwins$Patch")
  | 2 => .array .int
  | 3 => .object "LoggerTwins$Aligner"
  | 4 => .object "LoggerTwins$Cells"
  | 5 => .object "LoggerTwins$Records"
  | 6 => .object "LoggerTwins$Comparison"
  | 7 => .long
  | _ => .int
theorem nmX9 : ∀ a, a < 9 → ∀ b, b < 9 → a ≠ b → (TX9 a).2.1 ≠ (TX9 b).2.1 := by decide +kernel
theorem tyX9_ok : ∀ k, k < 9 → parseFieldDescriptor (TX9 k).2.2.1 = some (tyX9 k) := by decide +kernel
abbrev cX9_init : ByteArray := prog_1_method_1_code
def yX9_init : MethodName := ⟨RX9, "<init>", "()V"⟩
abbrev cX9_record : ByteArray := prog_1_method_2_code
def yX9_record : MethodName := ⟨RX9, "record", "(III)I"⟩
abbrev cX9_share : ByteArray := prog_1_method_3_code
def yX9_share : MethodName := ⟨RX9, "share", "(II)I"⟩
abbrev cX9_kind : ByteArray := prog_1_method_4_code
def yX9_kind : MethodName := ⟨RX9, "kind", "(II)I"⟩
abbrev cX9_size : ByteArray := prog_1_method_5_code
def yX9_size : MethodName := ⟨RX9, "size", "(I)I"⟩
abbrev cX9_ask : ByteArray := prog_1_method_6_code
def yX9_ask : MethodName := ⟨RX9, "ask", "(III)I"⟩
abbrev cX9_box : ByteArray := prog_1_method_7_code
def yX9_box : MethodName := ⟨RX9, "box", "(II)I"⟩
abbrev cX9_got : ByteArray := prog_1_method_8_code
def yX9_got : MethodName := ⟨RX9, "got", "()J"⟩
abbrev cX9_put : ByteArray := prog_1_method_9_code
def yX9_put : MethodName := ⟨RX9, "put", "(IIII)I"⟩
abbrev cX9_lay : ByteArray := prog_1_method_10_code
def yX9_lay : MethodName := ⟨RX9, "lay", "(IIII)I"⟩
abbrev cX9_fill : ByteArray := prog_1_method_11_code
def yX9_fill : MethodName := ⟨RX9, "fill", "(IIIII)I"⟩
abbrev cX9_move : ByteArray := prog_1_method_12_code
def yX9_move : MethodName := ⟨RX9, "move", "(IIIII)I"⟩
abbrev cX9_torn : ByteArray := prog_1_method_13_code
def yX9_torn : MethodName := ⟨RX9, "torn", "()I"⟩
abbrev cX9_sum : ByteArray := prog_1_method_14_code
def yX9_sum : MethodName := ⟨RX9, "sum", "(II)I"⟩
abbrev cX9_rate : ByteArray := prog_1_method_15_code
def yX9_rate : MethodName := ⟨RX9, "rate", "(II)I"⟩
abbrev cX9_like : ByteArray := prog_1_method_16_code
def yX9_like : MethodName := ⟨RX9, "like", "(IIII)I"⟩
abbrev cX9_compare : ByteArray := prog_1_method_17_code
def yX9_compare : MethodName := ⟨RX9, "compare", "(II)I"⟩
abbrev cX9_result : ByteArray := prog_1_method_18_code
def yX9_result : MethodName := ⟨RX9, "result", "(I)I"⟩
abbrev cX9_step : ByteArray := prog_1_method_19_code
def yX9_step : MethodName := ⟨RX9, "step", "(II)I"⟩
abbrev cX9_join : ByteArray := prog_1_method_20_code
def yX9_join : MethodName := ⟨RX9, "join", "(II)I"⟩
abbrev cX9_near : ByteArray := prog_1_method_21_code
def yX9_near : MethodName := ⟨RX9, "near", "(I)I"⟩
abbrev cX9_lag : ByteArray := prog_1_method_22_code
def yX9_lag : MethodName := ⟨RX9, "lag", "(II)I"⟩
abbrev cX9_vote : ByteArray := prog_1_method_23_code
def yX9_vote : MethodName := ⟨RX9, "vote", "(IIII)I"⟩
abbrev cX9_patch : ByteArray := prog_1_method_24_code
def yX9_patch : MethodName := ⟨RX9, "patch", "(I)I"⟩
abbrev cX9_turn : ByteArray := prog_1_method_25_code
def yX9_turn : MethodName := ⟨RX9, "turn", "(I)I"⟩
abbrev cX9_act : ByteArray := prog_1_method_26_code
def yX9_act : MethodName := ⟨RX9, "act", "(III)I"⟩
abbrev cX9_apply : ByteArray := prog_1_method_27_code
def yX9_apply : MethodName := ⟨RX9, "apply", "(II)I"⟩
abbrev cX9_log : ByteArray := prog_1_method_28_code
def yX9_log : MethodName := ⟨RX9, "log", "(IIII)I"⟩
abbrev cX9_draw : ByteArray := prog_1_method_29_code
def yX9_draw : MethodName := ⟨RX9, "draw", "(IIII)I"⟩
abbrev cX9_keep : ByteArray := prog_1_method_30_code
def yX9_keep : MethodName := ⟨RX9, "keep", "(I)I"⟩
abbrev cX9_back : ByteArray := prog_1_method_31_code
def yX9_back : MethodName := ⟨RX9, "back", "(I)I"⟩
abbrev cX9_count : ByteArray := prog_1_method_32_code
def yX9_count : MethodName := ⟨RX9, "count", "(I)I"⟩
abbrev cX9_isWithin : ByteArray := prog_1_method_33_code
def yX9_isWithin : MethodName := ⟨RX9, "isWithin", "(III)Z"⟩
abbrev cX9_isRecord : ByteArray := prog_1_method_34_code
def yX9_isRecord : MethodName := ⟨RX9, "isRecord", "(I)Z"⟩
abbrev cX9_isPatch : ByteArray := prog_1_method_35_code
def yX9_isPatch : MethodName := ⟨RX9, "isPatch", "(I)Z"⟩
abbrev cX9_answer : ByteArray := prog_1_method_36_code
def yX9_answer : MethodName := ⟨RX9, "answer", "(I)I"⟩
abbrev cX9_cellFault : ByteArray := prog_1_method_37_code
def yX9_cellFault : MethodName := ⟨RX9, "cellFault", "(II)I"⟩
abbrev cX9_readFault : ByteArray := prog_1_method_38_code
def yX9_readFault : MethodName := ⟨RX9, "readFault", "(LLoggerTwins$Cells;I)I"⟩
abbrev cX9_writeNumber : ByteArray := prog_1_method_39_code
def yX9_writeNumber : MethodName := ⟨RX9, "writeNumber", "(II)I"⟩
abbrev cX9_writeCell : ByteArray := prog_1_method_40_code
def yX9_writeCell : MethodName := ⟨RX9, "writeCell", "(IILLoggerTwins$Cells;I)I"⟩
abbrev cX9_nextState : ByteArray := prog_1_method_41_code
def yX9_nextState : MethodName := ⟨RX9, "nextState", "(I)I"⟩
abbrev cX9_drawOf : ByteArray := prog_1_method_42_code
def yX9_drawOf : MethodName := ⟨RX9, "drawOf", "(I)I"⟩
abbrev cX9_timesWritten : ByteArray := prog_1_method_43_code
def yX9_timesWritten : MethodName := ⟨RX9, "timesWritten", "(I)I"⟩
abbrev cX9_loggedLength : ByteArray := prog_1_method_44_code
def yX9_loggedLength : MethodName := ⟨RX9, "loggedLength", "(II)I"⟩
abbrev cX9_logged : ByteArray := prog_1_method_45_code
def yX9_logged : MethodName := ⟨RX9, "logged", "(LLoggerTwins$Cells;LLoggerTwins$Cells;I)LLoggerTwins$Cells;"⟩
abbrev cX9_patchesMade : ByteArray := prog_1_method_46_code
def yX9_patchesMade : MethodName := ⟨RX9, "patchesMade", "()I"⟩
abbrev cX9_imagesKept : ByteArray := prog_1_method_47_code
def yX9_imagesKept : MethodName := ⟨RX9, "imagesKept", "()I"⟩
def RX10 : String := "LoggerTwinsModel"
def TX10 : u_T := fun k => match k with
  | 0 => ("LoggerTwinsModel", "sorts", "[I", true)
  | 1 => ("LoggerTwinsModel", "numbers", "[J", true)
  | 2 => ("LoggerTwinsModel", "fractions", "[D", true)
  | 3 => ("LoggerTwinsModel", "kinds", "[I", true)
  | 4 => ("LoggerTwinsModel", "sizes", "[I", true)
  | 5 => ("LoggerTwinsModel", "holds", "[I", true)
  | 6 => ("LoggerTwinsModel", "got", "J", false)
  | 7 => ("LoggerTwinsModel", "torn", "I", false)
  | 8 => ("LoggerTwinsModel", "rates", "[I", true)
  | 9 => ("LoggerTwinsModel", "rest", "[I", true)
  | 10 => ("LoggerTwinsModel", "isCompared", "Z", false)
  | 11 => ("LoggerTwinsModel", "compared", "I", false)
  | 12 => ("LoggerTwinsModel", "stepMany", "I", false)
  | 13 => ("LoggerTwinsModel", "stepWhich", "[I", true)
  | 14 => ("LoggerTwinsModel", "stepLeft", "[I", true)
  | 15 => ("LoggerTwinsModel", "stepRight", "[I", true)
  | 16 => ("LoggerTwinsModel", "stepCosts", "[I", true)
  | 17 => ("LoggerTwinsModel", "isDouble", "[Z", true)
  | 18 => ("LoggerTwinsModel", "isNearThen", "[Z", true)
  | 19 => ("LoggerTwinsModel", "isPatch", "[Z", true)
  | 20 => ("LoggerTwinsModel", "actMany", "[I", true)
  | 21 => ("LoggerTwinsModel", "acts", "[I", true)
  | 22 => ("LoggerTwinsModel", "next", "I", false)
  | 23 => ("LoggerTwinsModel", "laid", "I", false)
  | 24 => ("LoggerTwinsModel", "isKept", "[Z", true)
  | _ => ("LoggerTwinsModel", "kept", "[I", true)
def tyX10 : Nat → FieldType := fun k => match k with
  | 0 => .array .int
  | 1 => .array .long
  | 2 => .array .double
  | 3 => .array .int
  | 4 => .array .int
  | 5 => .array .int
  | 6 => .long
  | 7 => .int
  | 8 => .array .int
  | 9 => .array .int
  | 10 => .boolean
  | 11 => .int
  | 12 => .int
  | 13 => .array .int
  | 14 => .array .int
  | 15 => .array .int
  | 16 => .array .int
  | 17 => .array .boolean
  | 18 => .array .boolean
  | 19 => .array .boolean
  | 20 => .array .int
  | 21 => .array .int
  | 22 => .int
  | 23 => .int
  | 24 => .array .boolean
  | _ => .array .int
theorem nmX10 : ∀ a, a < 26 → ∀ b, b < 26 → a ≠ b → (TX10 a).2.1 ≠ (TX10 b).2.1 := by decide +kernel
theorem tyX10_ok : ∀ k, k < 26 → parseFieldDescriptor (TX10 k).2.2.1 = some (tyX10 k) := by decide +kernel
abbrev cX10_init : ByteArray := prog_12_method_1_code
def yX10_init : MethodName := ⟨RX10, "<init>", "()V"⟩
abbrev cX10_in : ByteArray := prog_12_method_3_code
def yX10_in : MethodName := ⟨RX10, "in", "(JJJ)Z"⟩
abbrev cX10_flag : ByteArray := prog_12_method_4_code
def yX10_flag : MethodName := ⟨RX10, "flag", "(Z)I"⟩
abbrev cX10_isNumber : ByteArray := prog_12_method_5_code
def yX10_isNumber : MethodName := ⟨RX10, "isNumber", "(I)Z"⟩
abbrev cX10_goesInto : ByteArray := prog_12_method_6_code
def yX10_goesInto : MethodName := ⟨RX10, "goesInto", "(II)Z"⟩
abbrev cX10_joinOf : ByteArray := prog_12_method_7_code
def yX10_joinOf : MethodName := ⟨RX10, "joinOf", "(II)I"⟩
abbrev cX10_lays : ByteArray := prog_12_method_8_code
def yX10_lays : MethodName := ⟨RX10, "lays", "(IIJD)V"⟩
abbrev cX10_fractionOf : ByteArray := prog_12_method_9_code
def yX10_fractionOf : MethodName := ⟨RX10, "fractionOf", "(II)D"⟩
abbrev cX10_widens : ByteArray := prog_12_method_10_code
def yX10_widens : MethodName := ⟨RX10, "widens", "(III)V"⟩
abbrev cX10_bitsOf : ByteArray := prog_12_method_11_code
def yX10_bitsOf : MethodName := ⟨RX10, "bitsOf", "(ID)J"⟩
abbrev cX10_amountOf : ByteArray := prog_12_method_12_code
def yX10_amountOf : MethodName := ⟨RX10, "amountOf", "(II)J"⟩
abbrev cX10_areAlike : ByteArray := prog_12_method_13_code
def yX10_areAlike : MethodName := ⟨RX10, "areAlike", "(II)Z"⟩
abbrev cX10_areNear : ByteArray := prog_12_method_14_code
def yX10_areNear : MethodName := ⟨RX10, "areNear", "(II)Z"⟩
abbrev cX10_likeness : ByteArray := prog_12_method_15_code
def yX10_likeness : MethodName := ⟨RX10, "likeness", "(II)I"⟩
abbrev cX10_values : ByteArray := prog_12_method_16_code
def yX10_values : MethodName := ⟨RX10, "values", "(III)V"⟩
abbrev cX10_isRecord : ByteArray := prog_12_method_17_code
def yX10_isRecord : MethodName := ⟨RX10, "isRecord", "(I)Z"⟩
abbrev cX10_isKind : ByteArray := prog_12_method_18_code
def yX10_isKind : MethodName := ⟨RX10, "isKind", "(I)Z"⟩
abbrev cX10_isSort : ByteArray := prog_12_method_19_code
def yX10_isSort : MethodName := ⟨RX10, "isSort", "(I)Z"⟩
abbrev cX10_rowFault : ByteArray := prog_12_method_20_code
def yX10_rowFault : MethodName := ⟨RX10, "rowFault", "(I)I"⟩
abbrev cX10_cellFault : ByteArray := prog_12_method_21_code
def yX10_cellFault : MethodName := ⟨RX10, "cellFault", "(IJ)I"⟩
abbrev cX10_cellAt : ByteArray := prog_12_method_22_code
def yX10_cellAt : MethodName := ⟨RX10, "cellAt", "(II)I"⟩
abbrev cX10_kindOf : ByteArray := prog_12_method_23_code
def yX10_kindOf : MethodName := ⟨RX10, "kindOf", "(I)I"⟩
abbrev cX10_sizeOf : ByteArray := prog_12_method_24_code
def yX10_sizeOf : MethodName := ⟨RX10, "sizeOf", "(I)I"⟩
abbrev cX10_isHeld : ByteArray := prog_12_method_25_code
def yX10_isHeld : MethodName := ⟨RX10, "isHeld", "(I)Z"⟩
abbrev cX10_takesRow : ByteArray := prog_12_method_26_code
def yX10_takesRow : MethodName := ⟨RX10, "takesRow", "(III)V"⟩
abbrev cX10_takesMade : ByteArray := prog_12_method_27_code
def yX10_takesMade : MethodName := ⟨RX10, "takesMade", "(III)V"⟩
abbrev cX10_record : ByteArray := prog_12_method_28_code
def yX10_record : MethodName := ⟨RX10, "record", "(III)I"⟩
abbrev cX10_share : ByteArray := prog_12_method_29_code
def yX10_share : MethodName := ⟨RX10, "share", "(II)I"⟩
abbrev cX10_firstOf : ByteArray := prog_12_method_30_code
def yX10_firstOf : MethodName := ⟨RX10, "firstOf", "(I)I"⟩
abbrev cX10_kind : ByteArray := prog_12_method_31_code
def yX10_kind : MethodName := ⟨RX10, "kind", "(II)I"⟩
abbrev cX10_size : ByteArray := prog_12_method_32_code
def yX10_size : MethodName := ⟨RX10, "size", "(I)I"⟩
abbrev cX10_askFault : ByteArray := prog_12_method_33_code
def yX10_askFault : MethodName := ⟨RX10, "askFault", "(IJI)I"⟩
abbrev cX10_ask : ByteArray := prog_12_method_34_code
def yX10_ask : MethodName := ⟨RX10, "ask", "(III)I"⟩
abbrev cX10_box : ByteArray := prog_12_method_35_code
def yX10_box : MethodName := ⟨RX10, "box", "(II)I"⟩
abbrev cX10_got : ByteArray := prog_12_method_36_code
def yX10_got : MethodName := ⟨RX10, "got", "()J"⟩
abbrev cX10_putFault : ByteArray := prog_12_method_37_code
def yX10_putFault : MethodName := ⟨RX10, "putFault", "(IJI)I"⟩
abbrev cX10_layFault : ByteArray := prog_12_method_38_code
def yX10_layFault : MethodName := ⟨RX10, "layFault", "(IJI)I"⟩
abbrev cX10_laysValue : ByteArray := prog_12_method_39_code
def yX10_laysValue : MethodName := ⟨RX10, "laysValue", "(IIII)V"⟩
abbrev cX10_put : ByteArray := prog_12_method_40_code
def yX10_put : MethodName := ⟨RX10, "put", "(IIII)I"⟩
abbrev cX10_lay : ByteArray := prog_12_method_41_code
def yX10_lay : MethodName := ⟨RX10, "lay", "(IIII)I"⟩
abbrev cX10_fill : ByteArray := prog_12_method_42_code
def yX10_fill : MethodName := ⟨RX10, "fill", "(IIIII)I"⟩
abbrev cX10_moves : ByteArray := prog_12_method_43_code
def yX10_moves : MethodName := ⟨RX10, "moves", "(IJIJ)I"⟩
abbrev cX10_move : ByteArray := prog_12_method_44_code
def yX10_move : MethodName := ⟨RX10, "move", "(IIIII)I"⟩
abbrev cX10_torn : ByteArray := prog_12_method_45_code
def yX10_torn : MethodName := ⟨RX10, "torn", "()I"⟩
abbrev cX10_summed : ByteArray := prog_12_method_46_code
def yX10_summed : MethodName := ⟨RX10, "summed", "(II)J"⟩
abbrev cX10_sum : ByteArray := prog_12_method_47_code
def yX10_sum : MethodName := ⟨RX10, "sum", "(II)I"⟩
abbrev cX10_rate : ByteArray := prog_12_method_48_code
def yX10_rate : MethodName := ⟨RX10, "rate", "(II)I"⟩
abbrev cX10_like : ByteArray := prog_12_method_49_code
def yX10_like : MethodName := ⟨RX10, "like", "(IIII)I"⟩
abbrev cX10_besideCosts : ByteArray := prog_12_method_50_code
def yX10_besideCosts : MethodName := ⟨RX10, "besideCosts", "(II)I"⟩
abbrev cX10_isTwice : ByteArray := prog_12_method_51_code
def yX10_isTwice : MethodName := ⟨RX10, "isTwice", "(II)Z"⟩
abbrev cX10_aloneCosts : ByteArray := prog_12_method_52_code
def yX10_aloneCosts : MethodName := ⟨RX10, "aloneCosts", "(II)I"⟩
abbrev cX10_leastOf : ByteArray := prog_12_method_53_code
def yX10_leastOf : MethodName := ⟨RX10, "leastOf", "(II)I"⟩
abbrev cX10_pathCosts : ByteArray := prog_12_method_54_code
def yX10_pathCosts : MethodName := ⟨RX10, "pathCosts", "(II)I"⟩
abbrev cX10_copiesRow : ByteArray := prog_12_method_55_code
def yX10_copiesRow : MethodName := ⟨RX10, "copiesRow", "(II)V"⟩
abbrev cX10_copiesCell : ByteArray := prog_12_method_56_code
def yX10_copiesCell : MethodName := ⟨RX10, "copiesCell", "(II)V"⟩
abbrev cX10_goesStep : ByteArray := prog_12_method_57_code
def yX10_goesStep : MethodName := ⟨RX10, "goesStep", "(IIIIZ)V"⟩
abbrev cX10_findSteps : ByteArray := prog_12_method_58_code
def yX10_findSteps : MethodName := ⟨RX10, "findSteps", "()V"⟩
abbrev cX10_rowsFault : ByteArray := prog_12_method_59_code
def yX10_rowsFault : MethodName := ⟨RX10, "rowsFault", "(II)I"⟩
abbrev cX10_compare : ByteArray := prog_12_method_60_code
def yX10_compare : MethodName := ⟨RX10, "compare", "(II)I"⟩
abbrev cX10_besides : ByteArray := prog_12_method_61_code
def yX10_besides : MethodName := ⟨RX10, "besides", "(I)I"⟩
abbrev cX10_stepLikeness : ByteArray := prog_12_method_62_code
def yX10_stepLikeness : MethodName := ⟨RX10, "stepLikeness", "(I)I"⟩
abbrev cX10_seesNear : ByteArray := prog_12_method_63_code
def yX10_seesNear : MethodName := ⟨RX10, "seesNear", "()V"⟩
abbrev cX10_withWhich : ByteArray := prog_12_method_64_code
def yX10_withWhich : MethodName := ⟨RX10, "withWhich", "(I)I"⟩
abbrev cX10_doubles : ByteArray := prog_12_method_65_code
def yX10_doubles : MethodName := ⟨RX10, "doubles", "()I"⟩
abbrev cX10_joinedKind : ByteArray := prog_12_method_66_code
def yX10_joinedKind : MethodName := ⟨RX10, "joinedKind", "()I"⟩
abbrev cX10_result : ByteArray := prog_12_method_67_code
def yX10_result : MethodName := ⟨RX10, "result", "(I)I"⟩
abbrev cX10_step : ByteArray := prog_12_method_68_code
def yX10_step : MethodName := ⟨RX10, "step", "(II)I"⟩
abbrev cX10_halfOf : ByteArray := prog_12_method_69_code
def yX10_halfOf : MethodName := ⟨RX10, "halfOf", "(JJ)J"⟩
abbrev cX10_laysMean : ByteArray := prog_12_method_70_code
def yX10_laysMean : MethodName := ⟨RX10, "laysMean", "(III)V"⟩
abbrev cX10_makesBeside : ByteArray := prog_12_method_71_code
def yX10_makesBeside : MethodName := ⟨RX10, "makesBeside", "(IIII)V"⟩
abbrev cX10_join : ByteArray := prog_12_method_72_code
def yX10_join : MethodName := ⟨RX10, "join", "(II)I"⟩
abbrev cX10_near : ByteArray := prog_12_method_73_code
def yX10_near : MethodName := ⟨RX10, "near", "(I)I"⟩
abbrev cX10_alikeBy : ByteArray := prog_12_method_74_code
def yX10_alikeBy : MethodName := ⟨RX10, "alikeBy", "(III)I"⟩
abbrev cX10_lag : ByteArray := prog_12_method_75_code
def yX10_lag : MethodName := ⟨RX10, "lag", "(II)I"⟩
abbrev cX10_vote : ByteArray := prog_12_method_76_code
def yX10_vote : MethodName := ⟨RX10, "vote", "(IIII)I"⟩
abbrev cX10_isPatchNumber : ByteArray := prog_12_method_77_code
def yX10_isPatchNumber : MethodName := ⟨RX10, "isPatchNumber", "(I)Z"⟩
abbrev cX10_patch : ByteArray := prog_12_method_78_code
def yX10_patch : MethodName := ⟨RX10, "patch", "(I)I"⟩
abbrev cX10_turn : ByteArray := prog_12_method_79_code
def yX10_turn : MethodName := ⟨RX10, "turn", "(I)I"⟩
abbrev cX10_act : ByteArray := prog_12_method_80_code
def yX10_act : MethodName := ⟨RX10, "act", "(III)I"⟩
abbrev cX10_actFault : ByteArray := prog_12_method_81_code
def yX10_actFault : MethodName := ⟨RX10, "actFault", "(II)I"⟩
abbrev cX10_apply : ByteArray := prog_12_method_82_code
def yX10_apply : MethodName := ⟨RX10, "apply", "(II)I"⟩
abbrev cX10_strays : ByteArray := prog_12_method_83_code
def yX10_strays : MethodName := ⟨RX10, "strays", "(I)V"⟩
abbrev cX10_log : ByteArray := prog_12_method_84_code
def yX10_log : MethodName := ⟨RX10, "log", "(IIII)I"⟩
abbrev cX10_draw : ByteArray := prog_12_method_85_code
def yX10_draw : MethodName := ⟨RX10, "draw", "(IIII)I"⟩
abbrev cX10_keep : ByteArray := prog_12_method_86_code
def yX10_keep : MethodName := ⟨RX10, "keep", "(I)I"⟩
abbrev cX10_rowsHeld : ByteArray := prog_12_method_87_code
def yX10_rowsHeld : MethodName := ⟨RX10, "rowsHeld", "()I"⟩
abbrev cX10_back : ByteArray := prog_12_method_88_code
def yX10_back : MethodName := ⟨RX10, "back", "(I)I"⟩
abbrev cX10_ofRows : ByteArray := prog_12_method_89_code
def yX10_ofRows : MethodName := ⟨RX10, "ofRows", "(I)I"⟩
abbrev cX10_count : ByteArray := prog_12_method_90_code
def yX10_count : MethodName := ⟨RX10, "count", "(I)I"⟩
def RJxe99ae : String := "java/lang/Double"
def TJxe99ae : u_T := fun k => match k with
  | _ => ("", "", "", false)
def tyJxe99ae : Nat → FieldType := fun k => match k with
  | _ => .int
theorem nmJxe99ae : ∀ a, a < 0 → ∀ b, b < 0 → a ≠ b → (TJxe99ae a).2.1 ≠ (TJxe99ae b).2.1 := by decide +kernel
theorem tyJxe99ae_ok : ∀ k, k < 0 → parseFieldDescriptor (TJxe99ae k).2.2.1 = some (tyJxe99ae k) := by decide +kernel
abbrev cJxe99ae_isNaN_b9ae7 : ByteArray := prog_13_method_6_code
def yJxe99ae_isNaN_b9ae7 : MethodName := ⟨RJxe99ae, "isNaN", "(D)Z"⟩
abbrev cJxe99ae_doubleToLongBits_ccdee : ByteArray := prog_13_method_23_code
def yJxe99ae_doubleToLongBits_ccdee : MethodName := ⟨RJxe99ae, "doubleToLongBits", "(D)J"⟩
def RJxf58ca : String := "java/lang/Float"
def TJxf58ca : u_T := fun k => match k with
  | _ => ("", "", "", false)
def tyJxf58ca : Nat → FieldType := fun k => match k with
  | _ => .int
theorem nmJxf58ca : ∀ a, a < 0 → ∀ b, b < 0 → a ≠ b → (TJxf58ca a).2.1 ≠ (TJxf58ca b).2.1 := by decide +kernel
theorem tyJxf58ca_ok : ∀ k, k < 0 → parseFieldDescriptor (TJxf58ca k).2.2.1 = some (tyJxf58ca k) := by decide +kernel
abbrev cJxf58ca_isNaN_12338 : ByteArray := prog_14_method_6_code
def yJxf58ca_isNaN_12338 : MethodName := ⟨RJxf58ca, "isNaN", "(F)Z"⟩
abbrev cJxf58ca_floatToIntBits_5c35a : ByteArray := prog_14_method_24_code
def yJxf58ca_floatToIntBits_5c35a : MethodName := ⟨RJxf58ca, "floatToIntBits", "(F)I"⟩
def RJ9 : String := "java/lang/Math"
def TJ9 : u_T := fun k => match k with
  | _ => ("", "", "", false)
def tyJ9 : Nat → FieldType := fun k => match k with
  | _ => .int
theorem nmJ9 : ∀ a, a < 0 → ∀ b, b < 0 → a ≠ b → (TJ9 a).2.1 ≠ (TJ9 b).2.1 := by decide +kernel
theorem tyJ9_ok : ∀ k, k < 0 → parseFieldDescriptor (TJ9 k).2.2.1 = some (tyJ9 k) := by decide +kernel
abbrev cJ9_floorMod_f86c9 : ByteArray := prog_15_method_52_code
def yJ9_floorMod_f86c9 : MethodName := ⟨RJ9, "floorMod", "(JJ)J"⟩
abbrev cJ9_max_7cf53 : ByteArray := prog_15_method_65_code
def yJ9_max_7cf53 : MethodName := ⟨RJ9, "max", "(II)I"⟩
abbrev cJ9_min_7cf53 : ByteArray := prog_15_method_69_code
def yJ9_min_7cf53 : MethodName := ⟨RJ9, "min", "(II)I"⟩
def RL : String := "LoggerTwinsLaw"
abbrev cL_law : ByteArray := code
def yL_law : MethodName := ⟨RL, "law", "([I)Z"⟩
abbrev vwCl : List vw_C := [(RX0, TX0, 4), (RX1, TX1, 6), (RX3, TX3, 5), (RX4, TX4, 9), (RX7, TX7, 4), (RX8, TX8, 2), (RX9, TX9, 9), (RX10, TX10, 26)]
end
section
theorem dX0_init_0 : decode cX0_init 0 = .ok (.aload_n 0, 1) := by decide +kernel
theorem dX0_init_1 : decode cX0_init 1 = .ok (.invokespecial 3, 3) := by decide +kernel
theorem dX0_init_4 : decode cX0_init 4 = .ok (.aload_n 0, 1) := by decide +kernel
theorem dX0_init_5 : decode cX0_init 5 = .ok (.bipush 20, 2) := by decide +kernel
theorem dX0_init_7 : decode cX0_init 7 = .ok (.newarray .int, 2) := by decide +kernel
theorem dX0_init_9 : decode cX0_init 9 = .ok (.putfield 9, 3) := by decide +kernel
theorem dX0_init_12 : decode cX0_init 12 = .ok (.aload_n 0, 1) := by decide +kernel
theorem dX0_init_13 : decode cX0_init 13 = .ok (.bipush 20, 2) := by decide +kernel
theorem dX0_init_15 : decode cX0_init 15 = .ok (.newarray .int, 2) := by decide +kernel
theorem dX0_init_17 : decode cX0_init 17 = .ok (.putfield 15, 3) := by decide +kernel
theorem dX0_init_20 : decode cX0_init 20 = .ok (.aload_n 0, 1) := by decide +kernel
theorem dX0_init_21 : decode cX0_init 21 = .ok (.bipush 20, 2) := by decide +kernel
theorem dX0_init_23 : decode cX0_init 23 = .ok (.bipush 20, 2) := by decide +kernel
theorem dX0_init_25 : decode cX0_init 25 = .ok (.multianewarray 18 2, 4) := by decide +kernel
theorem dX0_init_29 : decode cX0_init 29 = .ok (.putfield 20, 3) := by decide +kernel
theorem dX0_init_32 : decode cX0_init 32 = .ok (.aload_n 0, 1) := by decide +kernel
theorem dX0_init_33 : decode cX0_init 33 = .ok (.bipush 21, 2) := by decide +kernel
theorem dX0_init_35 : decode cX0_init 35 = .ok (.bipush 21, 2) := by decide +kernel
theorem dX0_init_37 : decode cX0_init 37 = .ok (.multianewarray 18 2, 4) := by decide +kernel
theorem dX0_init_41 : decode cX0_init 41 = .ok (.putfield 23, 3) := by decide +kernel
theorem dX0_init_44 : decode cX0_init 44 = .ok (.return_, 1) := by decide +kernel
theorem dX0_costOf_0 : decode cX0_costOf 0 = .ok (.iload_n 0, 1) := by decide +kernel
theorem dX0_costOf_1 : decode cX0_costOf 1 = .ok (.tableswitch 43 0 3 #[31, 33, 35, 39], 31) := by decide +kernel
theorem dX0_costOf_32 : decode cX0_costOf 32 = .ok (.iconst 0, 1) := by decide +kernel
theorem dX0_costOf_33 : decode cX0_costOf 33 = .ok (.ireturn, 1) := by decide +kernel
theorem dX0_costOf_34 : decode cX0_costOf 34 = .ok (.iconst 1, 1) := by decide +kernel
theorem dX0_costOf_35 : decode cX0_costOf 35 = .ok (.ireturn, 1) := by decide +kernel
theorem dX0_costOf_36 : decode cX0_costOf 36 = .ok (.aload_n 1, 1) := by decide +kernel
theorem dX0_costOf_37 : decode cX0_costOf 37 = .ok (.iconst 1, 1) := by decide +kernel
theorem dX0_costOf_38 : decode cX0_costOf 38 = .ok (.iaload, 1) := by decide +kernel
theorem dX0_costOf_39 : decode cX0_costOf 39 = .ok (.ireturn, 1) := by decide +kernel
theorem dX0_costOf_40 : decode cX0_costOf 40 = .ok (.aload_n 1, 1) := by decide +kernel
theorem dX0_costOf_41 : decode cX0_costOf 41 = .ok (.iconst 2, 1) := by decide +kernel
theorem dX0_costOf_42 : decode cX0_costOf 42 = .ok (.iaload, 1) := by decide +kernel
theorem dX0_costOf_43 : decode cX0_costOf 43 = .ok (.ireturn, 1) := by decide +kernel
theorem dX0_costOf_44 : decode cX0_costOf 44 = .ok (.aload_n 1, 1) := by decide +kernel
theorem dX0_costOf_45 : decode cX0_costOf 45 = .ok (.iconst 3, 1) := by decide +kernel
theorem dX0_costOf_46 : decode cX0_costOf 46 = .ok (.iaload, 1) := by decide +kernel
theorem dX0_costOf_47 : decode cX0_costOf 47 = .ok (.ireturn, 1) := by decide +kernel
theorem dX0_judgeAlone_0 : decode cX0_judgeAlone 0 = .ok (.iconst 0, 1) := by decide +kernel
theorem dX0_judgeAlone_1 : decode cX0_judgeAlone 1 = .ok (.istore_n 2, 1) := by decide +kernel
theorem dX0_judgeAlone_2 : decode cX0_judgeAlone 2 = .ok (.iload_n 2, 1) := by decide +kernel
theorem dX0_judgeAlone_3 : decode cX0_judgeAlone 3 = .ok (.aload_n 0, 1) := by decide +kernel
theorem dX0_judgeAlone_4 : decode cX0_judgeAlone 4 = .ok (.getfield 26, 3) := by decide +kernel
theorem dX0_judgeAlone_7 : decode cX0_judgeAlone 7 = .ok (.if_icmp .ge 25, 3) := by decide +kernel
theorem dX0_judgeAlone_10 : decode cX0_judgeAlone 10 = .ok (.aload_n 1, 1) := by decide +kernel
theorem dX0_judgeAlone_11 : decode cX0_judgeAlone 11 = .ok (.iload_n 2, 1) := by decide +kernel
theorem dX0_judgeAlone_12 : decode cX0_judgeAlone 12 = .ok (.aload_n 0, 1) := by decide +kernel
theorem dX0_judgeAlone_13 : decode cX0_judgeAlone 13 = .ok (.iload_n 2, 1) := by decide +kernel
theorem dX0_judgeAlone_14 : decode cX0_judgeAlone 14 = .ok (.invokevirtual 32, 3) := by decide +kernel
theorem dX0_judgeAlone_17 : decode cX0_judgeAlone 17 = .ok (.ifCond .eq 7, 3) := by decide +kernel
theorem dX0_judgeAlone_20 : decode cX0_judgeAlone 20 = .ok (.iconst 4, 1) := by decide +kernel
theorem dX0_judgeAlone_21 : decode cX0_judgeAlone 21 = .ok (.goto 4, 3) := by decide +kernel
theorem dX0_judgeAlone_24 : decode cX0_judgeAlone 24 = .ok (.iconst 3, 1) := by decide +kernel
theorem dX0_judgeAlone_25 : decode cX0_judgeAlone 25 = .ok (.iastore, 1) := by decide +kernel
theorem dX0_judgeAlone_26 : decode cX0_judgeAlone 26 = .ok (.iinc 2 1, 3) := by decide +kernel
theorem dX0_judgeAlone_29 : decode cX0_judgeAlone 29 = .ok (.goto (-27), 3) := by decide +kernel
theorem dX0_judgeAlone_32 : decode cX0_judgeAlone 32 = .ok (.return_, 1) := by decide +kernel
theorem dX0_leastCost_0 : decode cX0_leastCost 0 = .ok (.aload_n 1, 1) := by decide +kernel
theorem dX0_leastCost_1 : decode cX0_leastCost 1 = .ok (.aload_n 0, 1) := by decide +kernel
theorem dX0_leastCost_2 : decode cX0_leastCost 2 = .ok (.getfield 9, 3) := by decide +kernel
theorem dX0_leastCost_5 : decode cX0_leastCost 5 = .ok (.invokestatic 36, 3) := by decide +kernel
theorem dX0_leastCost_8 : decode cX0_leastCost 8 = .ok (.aload_n 2, 1) := by decide +kernel
theorem dX0_leastCost_9 : decode cX0_leastCost 9 = .ok (.aload_n 0, 1) := by decide +kernel
theorem dX0_leastCost_10 : decode cX0_leastCost 10 = .ok (.getfield 15, 3) := by decide +kernel
theorem dX0_leastCost_13 : decode cX0_leastCost 13 = .ok (.invokestatic 36, 3) := by decide +kernel
theorem dX0_leastCost_16 : decode cX0_leastCost 16 = .ok (.aload_n 1, 1) := by decide +kernel
theorem dX0_leastCost_17 : decode cX0_leastCost 17 = .ok (.getfield 26, 3) := by decide +kernel
theorem dX0_leastCost_20 : decode cX0_leastCost 20 = .ok (.istore 4, 2) := by decide +kernel
theorem dX0_leastCost_22 : decode cX0_leastCost 22 = .ok (.aload_n 2, 1) := by decide +kernel
theorem dX0_leastCost_23 : decode cX0_leastCost 23 = .ok (.getfield 26, 3) := by decide +kernel
theorem dX0_leastCost_26 : decode cX0_leastCost 26 = .ok (.istore 5, 2) := by decide +kernel
theorem dX0_leastCost_28 : decode cX0_leastCost 28 = .ok (.aload_n 0, 1) := by decide +kernel
theorem dX0_leastCost_29 : decode cX0_leastCost 29 = .ok (.getfield 23, 3) := by decide +kernel
theorem dX0_leastCost_32 : decode cX0_leastCost 32 = .ok (.iload 4, 2) := by decide +kernel
theorem dX0_leastCost_34 : decode cX0_leastCost 34 = .ok (.aaload, 1) := by decide +kernel
theorem dX0_leastCost_35 : decode cX0_leastCost 35 = .ok (.iload 5, 2) := by decide +kernel
theorem dX0_leastCost_37 : decode cX0_leastCost 37 = .ok (.iconst 0, 1) := by decide +kernel
theorem dX0_leastCost_38 : decode cX0_leastCost 38 = .ok (.iastore, 1) := by decide +kernel
theorem dX0_leastCost_39 : decode cX0_leastCost 39 = .ok (.iload 4, 2) := by decide +kernel
theorem dX0_leastCost_41 : decode cX0_leastCost 41 = .ok (.iconst 1, 1) := by decide +kernel
theorem dX0_leastCost_42 : decode cX0_leastCost 42 = .ok (.isub, 1) := by decide +kernel
theorem dX0_leastCost_43 : decode cX0_leastCost 43 = .ok (.istore 6, 2) := by decide +kernel
theorem dX0_leastCost_45 : decode cX0_leastCost 45 = .ok (.iload 6, 2) := by decide +kernel
theorem dX0_leastCost_47 : decode cX0_leastCost 47 = .ok (.ifCond .lt 28, 3) := by decide +kernel
theorem dX0_leastCost_50 : decode cX0_leastCost 50 = .ok (.aload_n 0, 1) := by decide +kernel
theorem dX0_leastCost_51 : decode cX0_leastCost 51 = .ok (.getfield 23, 3) := by decide +kernel
theorem dX0_leastCost_54 : decode cX0_leastCost 54 = .ok (.iload 6, 2) := by decide +kernel
theorem dX0_leastCost_56 : decode cX0_leastCost 56 = .ok (.aaload, 1) := by decide +kernel
theorem dX0_leastCost_57 : decode cX0_leastCost 57 = .ok (.iload 5, 2) := by decide +kernel
theorem dX0_leastCost_59 : decode cX0_leastCost 59 = .ok (.aload_n 0, 1) := by decide +kernel
theorem dX0_leastCost_60 : decode cX0_leastCost 60 = .ok (.iload 6, 2) := by decide +kernel
theorem dX0_leastCost_62 : decode cX0_leastCost 62 = .ok (.iload 5, 2) := by decide +kernel
theorem dX0_leastCost_64 : decode cX0_leastCost 64 = .ok (.aload_n 3, 1) := by decide +kernel
theorem dX0_leastCost_65 : decode cX0_leastCost 65 = .ok (.invokevirtual 40, 3) := by decide +kernel
theorem dX0_leastCost_68 : decode cX0_leastCost 68 = .ok (.iastore, 1) := by decide +kernel
theorem dX0_leastCost_69 : decode cX0_leastCost 69 = .ok (.iinc 6 (-1), 3) := by decide +kernel
theorem dX0_leastCost_72 : decode cX0_leastCost 72 = .ok (.goto (-27), 3) := by decide +kernel
theorem dX0_leastCost_75 : decode cX0_leastCost 75 = .ok (.iload 5, 2) := by decide +kernel
theorem dX0_leastCost_77 : decode cX0_leastCost 77 = .ok (.iconst 1, 1) := by decide +kernel
theorem dX0_leastCost_78 : decode cX0_leastCost 78 = .ok (.isub, 1) := by decide +kernel
theorem dX0_leastCost_79 : decode cX0_leastCost 79 = .ok (.istore 6, 2) := by decide +kernel
theorem dX0_leastCost_81 : decode cX0_leastCost 81 = .ok (.iload 6, 2) := by decide +kernel
theorem dX0_leastCost_83 : decode cX0_leastCost 83 = .ok (.ifCond .lt 28, 3) := by decide +kernel
theorem dX0_leastCost_86 : decode cX0_leastCost 86 = .ok (.aload_n 0, 1) := by decide +kernel
theorem dX0_leastCost_87 : decode cX0_leastCost 87 = .ok (.getfield 23, 3) := by decide +kernel
theorem dX0_leastCost_90 : decode cX0_leastCost 90 = .ok (.iload 4, 2) := by decide +kernel
theorem dX0_leastCost_92 : decode cX0_leastCost 92 = .ok (.aaload, 1) := by decide +kernel
theorem dX0_leastCost_93 : decode cX0_leastCost 93 = .ok (.iload 6, 2) := by decide +kernel
theorem dX0_leastCost_95 : decode cX0_leastCost 95 = .ok (.aload_n 0, 1) := by decide +kernel
theorem dX0_leastCost_96 : decode cX0_leastCost 96 = .ok (.iload 4, 2) := by decide +kernel
theorem dX0_leastCost_98 : decode cX0_leastCost 98 = .ok (.iload 6, 2) := by decide +kernel
theorem dX0_leastCost_100 : decode cX0_leastCost 100 = .ok (.aload_n 3, 1) := by decide +kernel
theorem dX0_leastCost_101 : decode cX0_leastCost 101 = .ok (.invokevirtual 44, 3) := by decide +kernel
theorem dX0_leastCost_104 : decode cX0_leastCost 104 = .ok (.iastore, 1) := by decide +kernel
theorem dX0_leastCost_105 : decode cX0_leastCost 105 = .ok (.iinc 6 (-1), 3) := by decide +kernel
theorem dX0_leastCost_108 : decode cX0_leastCost 108 = .ok (.goto (-27), 3) := by decide +kernel
theorem dX0_leastCost_111 : decode cX0_leastCost 111 = .ok (.iload 4, 2) := by decide +kernel
theorem dX0_leastCost_113 : decode cX0_leastCost 113 = .ok (.iconst 1, 1) := by decide +kernel
theorem dX0_leastCost_114 : decode cX0_leastCost 114 = .ok (.isub, 1) := by decide +kernel
theorem dX0_leastCost_115 : decode cX0_leastCost 115 = .ok (.istore 6, 2) := by decide +kernel
theorem dX0_leastCost_117 : decode cX0_leastCost 117 = .ok (.iload 6, 2) := by decide +kernel
theorem dX0_leastCost_119 : decode cX0_leastCost 119 = .ok (.ifCond .lt 95, 3) := by decide +kernel
theorem dX0_leastCost_122 : decode cX0_leastCost 122 = .ok (.iload 5, 2) := by decide +kernel
theorem dX0_leastCost_124 : decode cX0_leastCost 124 = .ok (.iconst 1, 1) := by decide +kernel
theorem dX0_leastCost_125 : decode cX0_leastCost 125 = .ok (.isub, 1) := by decide +kernel
theorem dX0_leastCost_126 : decode cX0_leastCost 126 = .ok (.istore 7, 2) := by decide +kernel
theorem dX0_leastCost_128 : decode cX0_leastCost 128 = .ok (.iload 7, 2) := by decide +kernel
theorem dX0_leastCost_130 : decode cX0_leastCost 130 = .ok (.ifCond .lt 78, 3) := by decide +kernel
theorem dX0_leastCost_133 : decode cX0_leastCost 133 = .ok (.aload_n 0, 1) := by decide +kernel
theorem dX0_leastCost_134 : decode cX0_leastCost 134 = .ok (.getfield 20, 3) := by decide +kernel
theorem dX0_leastCost_137 : decode cX0_leastCost 137 = .ok (.iload 6, 2) := by decide +kernel
theorem dX0_leastCost_139 : decode cX0_leastCost 139 = .ok (.aaload, 1) := by decide +kernel
theorem dX0_leastCost_140 : decode cX0_leastCost 140 = .ok (.iload 7, 2) := by decide +kernel
theorem dX0_leastCost_142 : decode cX0_leastCost 142 = .ok (.aload_n 1, 1) := by decide +kernel
theorem dX0_leastCost_143 : decode cX0_leastCost 143 = .ok (.iload 6, 2) := by decide +kernel
theorem dX0_leastCost_145 : decode cX0_leastCost 145 = .ok (.aload_n 2, 1) := by decide +kernel
theorem dX0_leastCost_146 : decode cX0_leastCost 146 = .ok (.iload 7, 2) := by decide +kernel
theorem dX0_leastCost_148 : decode cX0_leastCost 148 = .ok (.aload_n 3, 1) := by decide +kernel
theorem dX0_leastCost_149 : decode cX0_leastCost 149 = .ok (.iconst 0, 1) := by decide +kernel
theorem dX0_leastCost_150 : decode cX0_leastCost 150 = .ok (.iaload, 1) := by decide +kernel
theorem dX0_leastCost_151 : decode cX0_leastCost 151 = .ok (.invokestatic 47, 3) := by decide +kernel
theorem dX0_leastCost_154 : decode cX0_leastCost 154 = .ok (.iastore, 1) := by decide +kernel
theorem dX0_leastCost_155 : decode cX0_leastCost 155 = .ok (.aload_n 0, 1) := by decide +kernel
theorem dX0_leastCost_156 : decode cX0_leastCost 156 = .ok (.iload 6, 2) := by decide +kernel
theorem dX0_leastCost_158 : decode cX0_leastCost 158 = .ok (.iload 7, 2) := by decide +kernel
theorem dX0_leastCost_160 : decode cX0_leastCost 160 = .ok (.aload_n 3, 1) := by decide +kernel
theorem dX0_leastCost_161 : decode cX0_leastCost 161 = .ok (.invokevirtual 40, 3) := by decide +kernel
theorem dX0_leastCost_164 : decode cX0_leastCost 164 = .ok (.aload_n 0, 1) := by decide +kernel
theorem dX0_leastCost_165 : decode cX0_leastCost 165 = .ok (.iload 6, 2) := by decide +kernel
theorem dX0_leastCost_167 : decode cX0_leastCost 167 = .ok (.iload 7, 2) := by decide +kernel
theorem dX0_leastCost_169 : decode cX0_leastCost 169 = .ok (.aload_n 3, 1) := by decide +kernel
theorem dX0_leastCost_170 : decode cX0_leastCost 170 = .ok (.invokevirtual 44, 3) := by decide +kernel
theorem dX0_leastCost_173 : decode cX0_leastCost 173 = .ok (.invokestatic 53, 3) := by decide +kernel
theorem dX0_leastCost_176 : decode cX0_leastCost 176 = .ok (.istore 8, 2) := by decide +kernel
theorem dX0_leastCost_178 : decode cX0_leastCost 178 = .ok (.aload_n 0, 1) := by decide +kernel
theorem dX0_leastCost_179 : decode cX0_leastCost 179 = .ok (.getfield 23, 3) := by decide +kernel
theorem dX0_leastCost_182 : decode cX0_leastCost 182 = .ok (.iload 6, 2) := by decide +kernel
theorem dX0_leastCost_184 : decode cX0_leastCost 184 = .ok (.aaload, 1) := by decide +kernel
theorem dX0_leastCost_185 : decode cX0_leastCost 185 = .ok (.iload 7, 2) := by decide +kernel
theorem dX0_leastCost_187 : decode cX0_leastCost 187 = .ok (.aload_n 0, 1) := by decide +kernel
theorem dX0_leastCost_188 : decode cX0_leastCost 188 = .ok (.iload 6, 2) := by decide +kernel
theorem dX0_leastCost_190 : decode cX0_leastCost 190 = .ok (.iload 7, 2) := by decide +kernel
theorem dX0_leastCost_192 : decode cX0_leastCost 192 = .ok (.aload_n 3, 1) := by decide +kernel
theorem dX0_leastCost_193 : decode cX0_leastCost 193 = .ok (.invokevirtual 59, 3) := by decide +kernel
theorem dX0_leastCost_196 : decode cX0_leastCost 196 = .ok (.iload 8, 2) := by decide +kernel
theorem dX0_leastCost_198 : decode cX0_leastCost 198 = .ok (.invokestatic 53, 3) := by decide +kernel
theorem dX0_leastCost_201 : decode cX0_leastCost 201 = .ok (.iastore, 1) := by decide +kernel
theorem dX0_leastCost_202 : decode cX0_leastCost 202 = .ok (.iinc 7 (-1), 3) := by decide +kernel
theorem dX0_leastCost_205 : decode cX0_leastCost 205 = .ok (.goto (-77), 3) := by decide +kernel
theorem dX0_leastCost_208 : decode cX0_leastCost 208 = .ok (.iinc 6 (-1), 3) := by decide +kernel
theorem dX0_leastCost_211 : decode cX0_leastCost 211 = .ok (.goto (-94), 3) := by decide +kernel
theorem dX0_leastCost_214 : decode cX0_leastCost 214 = .ok (.aload_n 0, 1) := by decide +kernel
theorem dX0_leastCost_215 : decode cX0_leastCost 215 = .ok (.getfield 23, 3) := by decide +kernel
theorem dX0_leastCost_218 : decode cX0_leastCost 218 = .ok (.iconst 0, 1) := by decide +kernel
theorem dX0_leastCost_219 : decode cX0_leastCost 219 = .ok (.aaload, 1) := by decide +kernel
theorem dX0_leastCost_220 : decode cX0_leastCost 220 = .ok (.iconst 0, 1) := by decide +kernel
theorem dX0_leastCost_221 : decode cX0_leastCost 221 = .ok (.iaload, 1) := by decide +kernel
theorem dX0_leastCost_222 : decode cX0_leastCost 222 = .ok (.ireturn, 1) := by decide +kernel
theorem dX0_pairCost_0 : decode cX0_pairCost 0 = .ok (.aload_n 0, 1) := by decide +kernel
theorem dX0_pairCost_1 : decode cX0_pairCost 1 = .ok (.getfield 20, 3) := by decide +kernel
theorem dX0_pairCost_4 : decode cX0_pairCost 4 = .ok (.iload_n 1, 1) := by decide +kernel
theorem dX0_pairCost_5 : decode cX0_pairCost 5 = .ok (.aaload, 1) := by decide +kernel
theorem dX0_pairCost_6 : decode cX0_pairCost 6 = .ok (.iload_n 2, 1) := by decide +kernel
theorem dX0_pairCost_7 : decode cX0_pairCost 7 = .ok (.iaload, 1) := by decide +kernel
theorem dX0_pairCost_8 : decode cX0_pairCost 8 = .ok (.aload_n 3, 1) := by decide +kernel
theorem dX0_pairCost_9 : decode cX0_pairCost 9 = .ok (.invokestatic 62, 3) := by decide +kernel
theorem dX0_pairCost_12 : decode cX0_pairCost 12 = .ok (.aload_n 0, 1) := by decide +kernel
theorem dX0_pairCost_13 : decode cX0_pairCost 13 = .ok (.getfield 23, 3) := by decide +kernel
theorem dX0_pairCost_16 : decode cX0_pairCost 16 = .ok (.iload_n 1, 1) := by decide +kernel
theorem dX0_pairCost_17 : decode cX0_pairCost 17 = .ok (.iconst 1, 1) := by decide +kernel
theorem dX0_pairCost_18 : decode cX0_pairCost 18 = .ok (.iadd, 1) := by decide +kernel
theorem dX0_pairCost_19 : decode cX0_pairCost 19 = .ok (.aaload, 1) := by decide +kernel
theorem dX0_pairCost_20 : decode cX0_pairCost 20 = .ok (.iload_n 2, 1) := by decide +kernel
theorem dX0_pairCost_21 : decode cX0_pairCost 21 = .ok (.iconst 1, 1) := by decide +kernel
theorem dX0_pairCost_22 : decode cX0_pairCost 22 = .ok (.iadd, 1) := by decide +kernel
theorem dX0_pairCost_23 : decode cX0_pairCost 23 = .ok (.iaload, 1) := by decide +kernel
theorem dX0_pairCost_24 : decode cX0_pairCost 24 = .ok (.iadd, 1) := by decide +kernel
theorem dX0_pairCost_25 : decode cX0_pairCost 25 = .ok (.ireturn, 1) := by decide +kernel
theorem dX0_leftCost_0 : decode cX0_leftCost 0 = .ok (.aload_n 0, 1) := by decide +kernel
theorem dX0_leftCost_1 : decode cX0_leftCost 1 = .ok (.getfield 9, 3) := by decide +kernel
theorem dX0_leftCost_4 : decode cX0_leftCost 4 = .ok (.iload_n 1, 1) := by decide +kernel
theorem dX0_leftCost_5 : decode cX0_leftCost 5 = .ok (.iaload, 1) := by decide +kernel
theorem dX0_leftCost_6 : decode cX0_leftCost 6 = .ok (.aload_n 3, 1) := by decide +kernel
theorem dX0_leftCost_7 : decode cX0_leftCost 7 = .ok (.invokestatic 62, 3) := by decide +kernel
theorem dX0_leftCost_10 : decode cX0_leftCost 10 = .ok (.aload_n 0, 1) := by decide +kernel
theorem dX0_leftCost_11 : decode cX0_leftCost 11 = .ok (.getfield 23, 3) := by decide +kernel
theorem dX0_leftCost_14 : decode cX0_leftCost 14 = .ok (.iload_n 1, 1) := by decide +kernel
theorem dX0_leftCost_15 : decode cX0_leftCost 15 = .ok (.iconst 1, 1) := by decide +kernel
theorem dX0_leftCost_16 : decode cX0_leftCost 16 = .ok (.iadd, 1) := by decide +kernel
theorem dX0_leftCost_17 : decode cX0_leftCost 17 = .ok (.aaload, 1) := by decide +kernel
theorem dX0_leftCost_18 : decode cX0_leftCost 18 = .ok (.iload_n 2, 1) := by decide +kernel
theorem dX0_leftCost_19 : decode cX0_leftCost 19 = .ok (.iaload, 1) := by decide +kernel
theorem dX0_leftCost_20 : decode cX0_leftCost 20 = .ok (.iadd, 1) := by decide +kernel
theorem dX0_leftCost_21 : decode cX0_leftCost 21 = .ok (.ireturn, 1) := by decide +kernel
theorem dX0_rightCost_0 : decode cX0_rightCost 0 = .ok (.aload_n 0, 1) := by decide +kernel
theorem dX0_rightCost_1 : decode cX0_rightCost 1 = .ok (.getfield 15, 3) := by decide +kernel
theorem dX0_rightCost_4 : decode cX0_rightCost 4 = .ok (.iload_n 2, 1) := by decide +kernel
theorem dX0_rightCost_5 : decode cX0_rightCost 5 = .ok (.iaload, 1) := by decide +kernel
theorem dX0_rightCost_6 : decode cX0_rightCost 6 = .ok (.aload_n 3, 1) := by decide +kernel
theorem dX0_rightCost_7 : decode cX0_rightCost 7 = .ok (.invokestatic 62, 3) := by decide +kernel
theorem dX0_rightCost_10 : decode cX0_rightCost 10 = .ok (.aload_n 0, 1) := by decide +kernel
theorem dX0_rightCost_11 : decode cX0_rightCost 11 = .ok (.getfield 23, 3) := by decide +kernel
theorem dX0_rightCost_14 : decode cX0_rightCost 14 = .ok (.iload_n 1, 1) := by decide +kernel
theorem dX0_rightCost_15 : decode cX0_rightCost 15 = .ok (.aaload, 1) := by decide +kernel
theorem dX0_rightCost_16 : decode cX0_rightCost 16 = .ok (.iload_n 2, 1) := by decide +kernel
theorem dX0_rightCost_17 : decode cX0_rightCost 17 = .ok (.iconst 1, 1) := by decide +kernel
theorem dX0_rightCost_18 : decode cX0_rightCost 18 = .ok (.iadd, 1) := by decide +kernel
theorem dX0_rightCost_19 : decode cX0_rightCost 19 = .ok (.iaload, 1) := by decide +kernel
theorem dX0_rightCost_20 : decode cX0_rightCost 20 = .ok (.iadd, 1) := by decide +kernel
theorem dX0_rightCost_21 : decode cX0_rightCost 21 = .ok (.ireturn, 1) := by decide +kernel
theorem dX0_traceSteps_0 : decode cX0_traceSteps 0 = .ok (.aload_n 1, 1) := by decide +kernel
theorem dX0_traceSteps_1 : decode cX0_traceSteps 1 = .ok (.getfield 66, 3) := by decide +kernel
theorem dX0_traceSteps_4 : decode cX0_traceSteps 4 = .ok (.getfield 26, 3) := by decide +kernel
theorem dX0_traceSteps_7 : decode cX0_traceSteps 7 = .ok (.istore_n 3, 1) := by decide +kernel
theorem dX0_traceSteps_8 : decode cX0_traceSteps 8 = .ok (.aload_n 1, 1) := by decide +kernel
theorem dX0_traceSteps_9 : decode cX0_traceSteps 9 = .ok (.getfield 72, 3) := by decide +kernel
theorem dX0_traceSteps_12 : decode cX0_traceSteps 12 = .ok (.getfield 26, 3) := by decide +kernel
theorem dX0_traceSteps_15 : decode cX0_traceSteps 15 = .ok (.istore 4, 2) := by decide +kernel
theorem dX0_traceSteps_17 : decode cX0_traceSteps 17 = .ok (.iconst 0, 1) := by decide +kernel
theorem dX0_traceSteps_18 : decode cX0_traceSteps 18 = .ok (.istore 5, 2) := by decide +kernel
theorem dX0_traceSteps_20 : decode cX0_traceSteps 20 = .ok (.iconst 0, 1) := by decide +kernel
theorem dX0_traceSteps_21 : decode cX0_traceSteps 21 = .ok (.istore 6, 2) := by decide +kernel
theorem dX0_traceSteps_23 : decode cX0_traceSteps 23 = .ok (.iconst 0, 1) := by decide +kernel
theorem dX0_traceSteps_24 : decode cX0_traceSteps 24 = .ok (.istore 7, 2) := by decide +kernel
theorem dX0_traceSteps_26 : decode cX0_traceSteps 26 = .ok (.iload 7, 2) := by decide +kernel
theorem dX0_traceSteps_28 : decode cX0_traceSteps 28 = .ok (.iload_n 3, 1) := by decide +kernel
theorem dX0_traceSteps_29 : decode cX0_traceSteps 29 = .ok (.iload 4, 2) := by decide +kernel
theorem dX0_traceSteps_31 : decode cX0_traceSteps 31 = .ok (.iadd, 1) := by decide +kernel
theorem dX0_traceSteps_32 : decode cX0_traceSteps 32 = .ok (.if_icmp .ge 197, 3) := by decide +kernel
theorem dX0_traceSteps_35 : decode cX0_traceSteps 35 = .ok (.iload 5, 2) := by decide +kernel
theorem dX0_traceSteps_37 : decode cX0_traceSteps 37 = .ok (.iload_n 3, 1) := by decide +kernel
theorem dX0_traceSteps_38 : decode cX0_traceSteps 38 = .ok (.if_icmp .lt 10, 3) := by decide +kernel
theorem dX0_traceSteps_41 : decode cX0_traceSteps 41 = .ok (.iload 6, 2) := by decide +kernel
theorem dX0_traceSteps_43 : decode cX0_traceSteps 43 = .ok (.iload 4, 2) := by decide +kernel
theorem dX0_traceSteps_45 : decode cX0_traceSteps 45 = .ok (.if_icmp .ge 184, 3) := by decide +kernel
theorem dX0_traceSteps_48 : decode cX0_traceSteps 48 = .ok (.iload 5, 2) := by decide +kernel
theorem dX0_traceSteps_50 : decode cX0_traceSteps 50 = .ok (.iload_n 3, 1) := by decide +kernel
theorem dX0_traceSteps_51 : decode cX0_traceSteps 51 = .ok (.if_icmp .ge 74, 3) := by decide +kernel
theorem dX0_traceSteps_54 : decode cX0_traceSteps 54 = .ok (.iload 6, 2) := by decide +kernel
theorem dX0_traceSteps_56 : decode cX0_traceSteps 56 = .ok (.iload 4, 2) := by decide +kernel
theorem dX0_traceSteps_58 : decode cX0_traceSteps 58 = .ok (.if_icmp .ge 67, 3) := by decide +kernel
theorem dX0_traceSteps_61 : decode cX0_traceSteps 61 = .ok (.aload_n 0, 1) := by decide +kernel
theorem dX0_traceSteps_62 : decode cX0_traceSteps 62 = .ok (.getfield 23, 3) := by decide +kernel
theorem dX0_traceSteps_65 : decode cX0_traceSteps 65 = .ok (.iload 5, 2) := by decide +kernel
theorem dX0_traceSteps_67 : decode cX0_traceSteps 67 = .ok (.aaload, 1) := by decide +kernel
theorem dX0_traceSteps_68 : decode cX0_traceSteps 68 = .ok (.iload 6, 2) := by decide +kernel
theorem dX0_traceSteps_70 : decode cX0_traceSteps 70 = .ok (.iaload, 1) := by decide +kernel
theorem dX0_traceSteps_71 : decode cX0_traceSteps 71 = .ok (.aload_n 0, 1) := by decide +kernel
theorem dX0_traceSteps_72 : decode cX0_traceSteps 72 = .ok (.iload 5, 2) := by decide +kernel
theorem dX0_traceSteps_74 : decode cX0_traceSteps 74 = .ok (.iload 6, 2) := by decide +kernel
theorem dX0_traceSteps_76 : decode cX0_traceSteps 76 = .ok (.aload_n 2, 1) := by decide +kernel
theorem dX0_traceSteps_77 : decode cX0_traceSteps 77 = .ok (.invokevirtual 59, 3) := by decide +kernel
theorem dX0_traceSteps_80 : decode cX0_traceSteps 80 = .ok (.if_icmp .ne 45, 3) := by decide +kernel
theorem dX0_traceSteps_83 : decode cX0_traceSteps 83 = .ok (.aload_n 1, 1) := by decide +kernel
theorem dX0_traceSteps_84 : decode cX0_traceSteps 84 = .ok (.iconst 0, 1) := by decide +kernel
theorem dX0_traceSteps_85 : decode cX0_traceSteps 85 = .ok (.iload 5, 2) := by decide +kernel
theorem dX0_traceSteps_87 : decode cX0_traceSteps 87 = .ok (.iload 6, 2) := by decide +kernel
theorem dX0_traceSteps_89 : decode cX0_traceSteps 89 = .ok (.aload_n 0, 1) := by decide +kernel
theorem dX0_traceSteps_90 : decode cX0_traceSteps 90 = .ok (.getfield 20, 3) := by decide +kernel
theorem dX0_traceSteps_93 : decode cX0_traceSteps 93 = .ok (.iload 5, 2) := by decide +kernel
theorem dX0_traceSteps_95 : decode cX0_traceSteps 95 = .ok (.aaload, 1) := by decide +kernel
theorem dX0_traceSteps_96 : decode cX0_traceSteps 96 = .ok (.iload 6, 2) := by decide +kernel
theorem dX0_traceSteps_98 : decode cX0_traceSteps 98 = .ok (.iaload, 1) := by decide +kernel
theorem dX0_traceSteps_99 : decode cX0_traceSteps 99 = .ok (.aload_n 0, 1) := by decide +kernel
theorem dX0_traceSteps_100 : decode cX0_traceSteps 100 = .ok (.getfield 20, 3) := by decide +kernel
theorem dX0_traceSteps_103 : decode cX0_traceSteps 103 = .ok (.iload 5, 2) := by decide +kernel
theorem dX0_traceSteps_105 : decode cX0_traceSteps 105 = .ok (.aaload, 1) := by decide +kernel
theorem dX0_traceSteps_106 : decode cX0_traceSteps 106 = .ok (.iload 6, 2) := by decide +kernel
theorem dX0_traceSteps_108 : decode cX0_traceSteps 108 = .ok (.iaload, 1) := by decide +kernel
theorem dX0_traceSteps_109 : decode cX0_traceSteps 109 = .ok (.aload_n 2, 1) := by decide +kernel
theorem dX0_traceSteps_110 : decode cX0_traceSteps 110 = .ok (.invokestatic 62, 3) := by decide +kernel
theorem dX0_traceSteps_113 : decode cX0_traceSteps 113 = .ok (.invokevirtual 75, 3) := by decide +kernel
theorem dX0_traceSteps_116 : decode cX0_traceSteps 116 = .ok (.iinc 5 1, 3) := by decide +kernel
theorem dX0_traceSteps_119 : decode cX0_traceSteps 119 = .ok (.iinc 6 1, 3) := by decide +kernel
theorem dX0_traceSteps_122 : decode cX0_traceSteps 122 = .ok (.goto 101, 3) := by decide +kernel
theorem dX0_traceSteps_125 : decode cX0_traceSteps 125 = .ok (.iload 5, 2) := by decide +kernel
theorem dX0_traceSteps_127 : decode cX0_traceSteps 127 = .ok (.iload_n 3, 1) := by decide +kernel
theorem dX0_traceSteps_128 : decode cX0_traceSteps 128 = .ok (.if_icmp .ge 58, 3) := by decide +kernel
theorem dX0_traceSteps_131 : decode cX0_traceSteps 131 = .ok (.aload_n 0, 1) := by decide +kernel
theorem dX0_traceSteps_132 : decode cX0_traceSteps 132 = .ok (.getfield 23, 3) := by decide +kernel
theorem dX0_traceSteps_135 : decode cX0_traceSteps 135 = .ok (.iload 5, 2) := by decide +kernel
theorem dX0_traceSteps_137 : decode cX0_traceSteps 137 = .ok (.aaload, 1) := by decide +kernel
theorem dX0_traceSteps_138 : decode cX0_traceSteps 138 = .ok (.iload 6, 2) := by decide +kernel
theorem dX0_traceSteps_140 : decode cX0_traceSteps 140 = .ok (.iaload, 1) := by decide +kernel
theorem dX0_traceSteps_141 : decode cX0_traceSteps 141 = .ok (.aload_n 0, 1) := by decide +kernel
theorem dX0_traceSteps_142 : decode cX0_traceSteps 142 = .ok (.iload 5, 2) := by decide +kernel
theorem dX0_traceSteps_144 : decode cX0_traceSteps 144 = .ok (.iload 6, 2) := by decide +kernel
theorem dX0_traceSteps_146 : decode cX0_traceSteps 146 = .ok (.aload_n 2, 1) := by decide +kernel
theorem dX0_traceSteps_147 : decode cX0_traceSteps 147 = .ok (.invokevirtual 40, 3) := by decide +kernel
theorem dX0_traceSteps_150 : decode cX0_traceSteps 150 = .ok (.if_icmp .ne 36, 3) := by decide +kernel
theorem dX0_traceSteps_153 : decode cX0_traceSteps 153 = .ok (.aload_n 1, 1) := by decide +kernel
theorem dX0_traceSteps_154 : decode cX0_traceSteps 154 = .ok (.iconst 1, 1) := by decide +kernel
theorem dX0_traceSteps_155 : decode cX0_traceSteps 155 = .ok (.iload 5, 2) := by decide +kernel
theorem dX0_traceSteps_157 : decode cX0_traceSteps 157 = .ok (.iload 6, 2) := by decide +kernel
theorem dX0_traceSteps_159 : decode cX0_traceSteps 159 = .ok (.aload_n 0, 1) := by decide +kernel
theorem dX0_traceSteps_160 : decode cX0_traceSteps 160 = .ok (.getfield 9, 3) := by decide +kernel
theorem dX0_traceSteps_163 : decode cX0_traceSteps 163 = .ok (.iload 5, 2) := by decide +kernel
theorem dX0_traceSteps_165 : decode cX0_traceSteps 165 = .ok (.iaload, 1) := by decide +kernel
theorem dX0_traceSteps_166 : decode cX0_traceSteps 166 = .ok (.aload_n 0, 1) := by decide +kernel
theorem dX0_traceSteps_167 : decode cX0_traceSteps 167 = .ok (.getfield 9, 3) := by decide +kernel
theorem dX0_traceSteps_170 : decode cX0_traceSteps 170 = .ok (.iload 5, 2) := by decide +kernel
theorem dX0_traceSteps_172 : decode cX0_traceSteps 172 = .ok (.iaload, 1) := by decide +kernel
theorem dX0_traceSteps_173 : decode cX0_traceSteps 173 = .ok (.aload_n 2, 1) := by decide +kernel
theorem dX0_traceSteps_174 : decode cX0_traceSteps 174 = .ok (.invokestatic 62, 3) := by decide +kernel
theorem dX0_traceSteps_177 : decode cX0_traceSteps 177 = .ok (.invokevirtual 75, 3) := by decide +kernel
theorem dX0_traceSteps_180 : decode cX0_traceSteps 180 = .ok (.iinc 5 1, 3) := by decide +kernel
theorem dX0_traceSteps_183 : decode cX0_traceSteps 183 = .ok (.goto 40, 3) := by decide +kernel
theorem dX0_traceSteps_186 : decode cX0_traceSteps 186 = .ok (.iload 6, 2) := by decide +kernel
theorem dX0_traceSteps_188 : decode cX0_traceSteps 188 = .ok (.iload 4, 2) := by decide +kernel
theorem dX0_traceSteps_190 : decode cX0_traceSteps 190 = .ok (.if_icmp .ge 33, 3) := by decide +kernel
theorem dX0_traceSteps_193 : decode cX0_traceSteps 193 = .ok (.aload_n 1, 1) := by decide +kernel
theorem dX0_traceSteps_194 : decode cX0_traceSteps 194 = .ok (.iconst 2, 1) := by decide +kernel
theorem dX0_traceSteps_195 : decode cX0_traceSteps 195 = .ok (.iload 5, 2) := by decide +kernel
theorem dX0_traceSteps_197 : decode cX0_traceSteps 197 = .ok (.iload 6, 2) := by decide +kernel
theorem dX0_traceSteps_199 : decode cX0_traceSteps 199 = .ok (.aload_n 0, 1) := by decide +kernel
theorem dX0_traceSteps_200 : decode cX0_traceSteps 200 = .ok (.getfield 15, 3) := by decide +kernel
theorem dX0_traceSteps_203 : decode cX0_traceSteps 203 = .ok (.iload 6, 2) := by decide +kernel
theorem dX0_traceSteps_205 : decode cX0_traceSteps 205 = .ok (.iaload, 1) := by decide +kernel
theorem dX0_traceSteps_206 : decode cX0_traceSteps 206 = .ok (.aload_n 0, 1) := by decide +kernel
theorem dX0_traceSteps_207 : decode cX0_traceSteps 207 = .ok (.getfield 15, 3) := by decide +kernel
theorem dX0_traceSteps_210 : decode cX0_traceSteps 210 = .ok (.iload 6, 2) := by decide +kernel
theorem dX0_traceSteps_212 : decode cX0_traceSteps 212 = .ok (.iaload, 1) := by decide +kernel
theorem dX0_traceSteps_213 : decode cX0_traceSteps 213 = .ok (.aload_n 2, 1) := by decide +kernel
theorem dX0_traceSteps_214 : decode cX0_traceSteps 214 = .ok (.invokestatic 62, 3) := by decide +kernel
theorem dX0_traceSteps_217 : decode cX0_traceSteps 217 = .ok (.invokevirtual 75, 3) := by decide +kernel
theorem dX0_traceSteps_220 : decode cX0_traceSteps 220 = .ok (.iinc 6 1, 3) := by decide +kernel
theorem dX0_traceSteps_223 : decode cX0_traceSteps 223 = .ok (.iinc 7 1, 3) := by decide +kernel
theorem dX0_traceSteps_226 : decode cX0_traceSteps 226 = .ok (.goto (-200), 3) := by decide +kernel
theorem dX0_traceSteps_229 : decode cX0_traceSteps 229 = .ok (.return_, 1) := by decide +kernel
theorem dX1_init_0 : decode cX1_init 0 = .ok (.aload_n 0, 1) := by decide +kernel
theorem dX1_init_1 : decode cX1_init 1 = .ok (.invokespecial 3, 3) := by decide +kernel
theorem dX1_init_4 : decode cX1_init 4 = .ok (.aload_n 0, 1) := by decide +kernel
theorem dX1_init_5 : decode cX1_init 5 = .ok (.aload_n 1, 1) := by decide +kernel
theorem dX1_init_6 : decode cX1_init 6 = .ok (.putfield 9, 3) := by decide +kernel
theorem dX1_init_9 : decode cX1_init 9 = .ok (.aload_n 0, 1) := by decide +kernel
theorem dX1_init_10 : decode cX1_init 10 = .ok (.aload_n 2, 1) := by decide +kernel
theorem dX1_init_11 : decode cX1_init 11 = .ok (.putfield 15, 3) := by decide +kernel
theorem dX1_init_14 : decode cX1_init 14 = .ok (.aload_n 0, 1) := by decide +kernel
theorem dX1_init_15 : decode cX1_init 15 = .ok (.new 19, 3) := by decide +kernel
theorem dX1_init_18 : decode cX1_init 18 = .ok (.dup, 1) := by decide +kernel
theorem dX1_init_19 : decode cX1_init 19 = .ok (.aload_n 2, 1) := by decide +kernel
theorem dX1_init_20 : decode cX1_init 20 = .ok (.getfield 21, 3) := by decide +kernel
theorem dX1_init_23 : decode cX1_init 23 = .ok (.aload_n 1, 1) := by decide +kernel
theorem dX1_init_24 : decode cX1_init 24 = .ok (.getfield 25, 3) := by decide +kernel
theorem dX1_init_27 : decode cX1_init 27 = .ok (.aload_n 1, 1) := by decide +kernel
theorem dX1_init_28 : decode cX1_init 28 = .ok (.iconst 2, 1) := by decide +kernel
theorem dX1_init_29 : decode cX1_init 29 = .ok (.invokevirtual 30, 3) := by decide +kernel
theorem dX1_init_32 : decode cX1_init 32 = .ok (.isub, 1) := by decide +kernel
theorem dX1_init_33 : decode cX1_init 33 = .ok (.invokespecial 34, 3) := by decide +kernel
theorem dX1_init_36 : decode cX1_init 36 = .ok (.putfield 37, 3) := by decide +kernel
theorem dX1_init_39 : decode cX1_init 39 = .ok (.return_, 1) := by decide +kernel
theorem dX1_run_0 : decode cX1_run 0 = .ok (.iconst 0, 1) := by decide +kernel
theorem dX1_run_1 : decode cX1_run 1 = .ok (.istore_n 1, 1) := by decide +kernel
theorem dX1_run_2 : decode cX1_run 2 = .ok (.iload_n 1, 1) := by decide +kernel
theorem dX1_run_3 : decode cX1_run 3 = .ok (.aload_n 0, 1) := by decide +kernel
theorem dX1_run_4 : decode cX1_run 4 = .ok (.getfield 9, 3) := by decide +kernel
theorem dX1_run_7 : decode cX1_run 7 = .ok (.getfield 25, 3) := by decide +kernel
theorem dX1_run_10 : decode cX1_run 10 = .ok (.if_icmp .ge 32, 3) := by decide +kernel
theorem dX1_run_13 : decode cX1_run 13 = .ok (.aload_n 0, 1) := by decide +kernel
theorem dX1_run_14 : decode cX1_run 14 = .ok (.aload_n 0, 1) := by decide +kernel
theorem dX1_run_15 : decode cX1_run 15 = .ok (.iload_n 1, 1) := by decide +kernel
theorem dX1_run_16 : decode cX1_run 16 = .ok (.invokevirtual 40, 3) := by decide +kernel
theorem dX1_run_19 : decode cX1_run 19 = .ok (.putfield 43, 3) := by decide +kernel
theorem dX1_run_22 : decode cX1_run 22 = .ok (.aload_n 0, 1) := by decide +kernel
theorem dX1_run_23 : decode cX1_run 23 = .ok (.getfield 43, 3) := by decide +kernel
theorem dX1_run_26 : decode cX1_run 26 = .ok (.ifCond .eq 5, 3) := by decide +kernel
theorem dX1_run_29 : decode cX1_run 29 = .ok (.iload_n 1, 1) := by decide +kernel
theorem dX1_run_30 : decode cX1_run 30 = .ok (.ireturn, 1) := by decide +kernel
theorem dX1_run_31 : decode cX1_run 31 = .ok (.aload_n 0, 1) := by decide +kernel
theorem dX1_run_32 : decode cX1_run 32 = .ok (.iload_n 1, 1) := by decide +kernel
theorem dX1_run_33 : decode cX1_run 33 = .ok (.invokevirtual 46, 3) := by decide +kernel
theorem dX1_run_36 : decode cX1_run 36 = .ok (.iinc 1 1, 3) := by decide +kernel
theorem dX1_run_39 : decode cX1_run 39 = .ok (.goto (-37), 3) := by decide +kernel
theorem dX1_run_42 : decode cX1_run 42 = .ok (.aload_n 0, 1) := by decide +kernel
theorem dX1_run_43 : decode cX1_run 43 = .ok (.getfield 50, 3) := by decide +kernel
theorem dX1_run_46 : decode cX1_run 46 = .ok (.aload_n 0, 1) := by decide +kernel
theorem dX1_run_47 : decode cX1_run 47 = .ok (.getfield 15, 3) := by decide +kernel
theorem dX1_run_50 : decode cX1_run 50 = .ok (.getfield 53, 3) := by decide +kernel
theorem dX1_run_53 : decode cX1_run 53 = .ok (.if_icmp .ge 8, 3) := by decide +kernel
theorem dX1_run_56 : decode cX1_run 56 = .ok (.aload_n 0, 1) := by decide +kernel
theorem dX1_run_57 : decode cX1_run 57 = .ok (.iconst 3, 1) := by decide +kernel
theorem dX1_run_58 : decode cX1_run 58 = .ok (.putfield 43, 3) := by decide +kernel
theorem dX1_run_61 : decode cX1_run 61 = .ok (.aload_n 0, 1) := by decide +kernel
theorem dX1_run_62 : decode cX1_run 62 = .ok (.getfield 9, 3) := by decide +kernel
theorem dX1_run_65 : decode cX1_run 65 = .ok (.getfield 25, 3) := by decide +kernel
theorem dX1_run_68 : decode cX1_run 68 = .ok (.ireturn, 1) := by decide +kernel
theorem dX1_faultOf_0 : decode cX1_faultOf 0 = .ok (.aload_n 0, 1) := by decide +kernel
theorem dX1_faultOf_1 : decode cX1_faultOf 1 = .ok (.getfield 9, 3) := by decide +kernel
theorem dX1_faultOf_4 : decode cX1_faultOf 4 = .ok (.getfield 54, 3) := by decide +kernel
theorem dX1_faultOf_7 : decode cX1_faultOf 7 = .ok (.iload_n 1, 1) := by decide +kernel
theorem dX1_faultOf_8 : decode cX1_faultOf 8 = .ok (.iaload, 1) := by decide +kernel
theorem dX1_faultOf_9 : decode cX1_faultOf 9 = .ok (.istore_n 2, 1) := by decide +kernel
theorem dX1_faultOf_10 : decode cX1_faultOf 10 = .ok (.iload_n 2, 1) := by decide +kernel
theorem dX1_faultOf_11 : decode cX1_faultOf 11 = .ok (.iconst 3, 1) := by decide +kernel
theorem dX1_faultOf_12 : decode cX1_faultOf 12 = .ok (.if_icmp .eq 19, 3) := by decide +kernel
theorem dX1_faultOf_15 : decode cX1_faultOf 15 = .ok (.aload_n 0, 1) := by decide +kernel
theorem dX1_faultOf_16 : decode cX1_faultOf 16 = .ok (.getfield 50, 3) := by decide +kernel
theorem dX1_faultOf_19 : decode cX1_faultOf 19 = .ok (.aload_n 0, 1) := by decide +kernel
theorem dX1_faultOf_20 : decode cX1_faultOf 20 = .ok (.getfield 15, 3) := by decide +kernel
theorem dX1_faultOf_23 : decode cX1_faultOf 23 = .ok (.getfield 53, 3) := by decide +kernel
theorem dX1_faultOf_26 : decode cX1_faultOf 26 = .ok (.if_icmp .lt 5, 3) := by decide +kernel
theorem dX1_faultOf_29 : decode cX1_faultOf 29 = .ok (.iconst 3, 1) := by decide +kernel
theorem dX1_faultOf_30 : decode cX1_faultOf 30 = .ok (.ireturn, 1) := by decide +kernel
theorem dX1_faultOf_31 : decode cX1_faultOf 31 = .ok (.iload_n 2, 1) := by decide +kernel
theorem dX1_faultOf_32 : decode cX1_faultOf 32 = .ok (.iconst 1, 1) := by decide +kernel
theorem dX1_faultOf_33 : decode cX1_faultOf 33 = .ok (.if_icmp .eq 8, 3) := by decide +kernel
theorem dX1_faultOf_36 : decode cX1_faultOf 36 = .ok (.iload_n 2, 1) := by decide +kernel
theorem dX1_faultOf_37 : decode cX1_faultOf 37 = .ok (.iconst 2, 1) := by decide +kernel
theorem dX1_faultOf_38 : decode cX1_faultOf 38 = .ok (.if_icmp .ne 28, 3) := by decide +kernel
theorem dX1_faultOf_41 : decode cX1_faultOf 41 = .ok (.aload_n 0, 1) := by decide +kernel
theorem dX1_faultOf_42 : decode cX1_faultOf 42 = .ok (.getfield 15, 3) := by decide +kernel
theorem dX1_faultOf_45 : decode cX1_faultOf 45 = .ok (.aload_n 0, 1) := by decide +kernel
theorem dX1_faultOf_46 : decode cX1_faultOf 46 = .ok (.getfield 50, 3) := by decide +kernel
theorem dX1_faultOf_49 : decode cX1_faultOf 49 = .ok (.aload_n 0, 1) := by decide +kernel
theorem dX1_faultOf_50 : decode cX1_faultOf 50 = .ok (.getfield 9, 3) := by decide +kernel
theorem dX1_faultOf_53 : decode cX1_faultOf 53 = .ok (.getfield 58, 3) := by decide +kernel
theorem dX1_faultOf_56 : decode cX1_faultOf 56 = .ok (.iload_n 1, 1) := by decide +kernel
theorem dX1_faultOf_57 : decode cX1_faultOf 57 = .ok (.invokestatic 61, 3) := by decide +kernel
theorem dX1_faultOf_60 : decode cX1_faultOf 60 = .ok (.ifCond .ne 6, 3) := by decide +kernel
theorem dX1_faultOf_63 : decode cX1_faultOf 63 = .ok (.bipush 7, 2) := by decide +kernel
theorem dX1_faultOf_65 : decode cX1_faultOf 65 = .ok (.ireturn, 1) := by decide +kernel
theorem dX1_faultOf_66 : decode cX1_faultOf 66 = .ok (.iload_n 2, 1) := by decide +kernel
theorem dX1_faultOf_67 : decode cX1_faultOf 67 = .ok (.iconst 1, 1) := by decide +kernel
theorem dX1_faultOf_68 : decode cX1_faultOf 68 = .ok (.if_icmp .eq 8, 3) := by decide +kernel
theorem dX1_faultOf_71 : decode cX1_faultOf 71 = .ok (.iload_n 2, 1) := by decide +kernel
theorem dX1_faultOf_72 : decode cX1_faultOf 72 = .ok (.iconst 3, 1) := by decide +kernel
theorem dX1_faultOf_73 : decode cX1_faultOf 73 = .ok (.if_icmp .ne 7, 3) := by decide +kernel
theorem dX1_faultOf_76 : decode cX1_faultOf 76 = .ok (.iconst 1, 1) := by decide +kernel
theorem dX1_faultOf_77 : decode cX1_faultOf 77 = .ok (.goto 4, 3) := by decide +kernel
theorem dX1_faultOf_80 : decode cX1_faultOf 80 = .ok (.iconst 0, 1) := by decide +kernel
theorem dX1_faultOf_81 : decode cX1_faultOf 81 = .ok (.istore_n 3, 1) := by decide +kernel
theorem dX1_faultOf_82 : decode cX1_faultOf 82 = .ok (.iload_n 3, 1) := by decide +kernel
theorem dX1_faultOf_83 : decode cX1_faultOf 83 = .ok (.ifCond .eq 32, 3) := by decide +kernel
theorem dX1_faultOf_86 : decode cX1_faultOf 86 = .ok (.aload_n 0, 1) := by decide +kernel
theorem dX1_faultOf_87 : decode cX1_faultOf 87 = .ok (.getfield 9, 3) := by decide +kernel
theorem dX1_faultOf_90 : decode cX1_faultOf 90 = .ok (.getfield 67, 3) := by decide +kernel
theorem dX1_faultOf_93 : decode cX1_faultOf 93 = .ok (.getfield 70, 3) := by decide +kernel
theorem dX1_faultOf_96 : decode cX1_faultOf 96 = .ok (.iload_n 1, 1) := by decide +kernel
theorem dX1_faultOf_97 : decode cX1_faultOf 97 = .ok (.iaload, 1) := by decide +kernel
theorem dX1_faultOf_98 : decode cX1_faultOf 98 = .ok (.aload_n 0, 1) := by decide +kernel
theorem dX1_faultOf_99 : decode cX1_faultOf 99 = .ok (.getfield 15, 3) := by decide +kernel
theorem dX1_faultOf_102 : decode cX1_faultOf 102 = .ok (.getfield 21, 3) := by decide +kernel
theorem dX1_faultOf_105 : decode cX1_faultOf 105 = .ok (.invokestatic 73, 3) := by decide +kernel
theorem dX1_faultOf_108 : decode cX1_faultOf 108 = .ok (.ifCond .ne 7, 3) := by decide +kernel
theorem dX1_faultOf_111 : decode cX1_faultOf 111 = .ok (.iconst 5, 1) := by decide +kernel
theorem dX1_faultOf_112 : decode cX1_faultOf 112 = .ok (.goto 4, 3) := by decide +kernel
theorem dX1_faultOf_115 : decode cX1_faultOf 115 = .ok (.iconst 0, 1) := by decide +kernel
theorem dX1_faultOf_116 : decode cX1_faultOf 116 = .ok (.ireturn, 1) := by decide +kernel
theorem dX1_perform_0 : decode cX1_perform 0 = .ok (.aload_n 0, 1) := by decide +kernel
theorem dX1_perform_1 : decode cX1_perform 1 = .ok (.getfield 9, 3) := by decide +kernel
theorem dX1_perform_4 : decode cX1_perform 4 = .ok (.getfield 54, 3) := by decide +kernel
theorem dX1_perform_7 : decode cX1_perform 7 = .ok (.iload_n 1, 1) := by decide +kernel
theorem dX1_perform_8 : decode cX1_perform 8 = .ok (.iaload, 1) := by decide +kernel
theorem dX1_perform_9 : decode cX1_perform 9 = .ok (.istore_n 2, 1) := by decide +kernel
theorem dX1_perform_10 : decode cX1_perform 10 = .ok (.iload_n 2, 1) := by decide +kernel
theorem dX1_perform_11 : decode cX1_perform 11 = .ok (.ifCond .ne 25, 3) := by decide +kernel
theorem dX1_perform_14 : decode cX1_perform 14 = .ok (.aload_n 0, 1) := by decide +kernel
theorem dX1_perform_15 : decode cX1_perform 15 = .ok (.getfield 37, 3) := by decide +kernel
theorem dX1_perform_18 : decode cX1_perform 18 = .ok (.aload_n 0, 1) := by decide +kernel
theorem dX1_perform_19 : decode cX1_perform 19 = .ok (.getfield 79, 3) := by decide +kernel
theorem dX1_perform_22 : decode cX1_perform 22 = .ok (.aload_n 0, 1) := by decide +kernel
theorem dX1_perform_23 : decode cX1_perform 23 = .ok (.getfield 15, 3) := by decide +kernel
theorem dX1_perform_26 : decode cX1_perform 26 = .ok (.aload_n 0, 1) := by decide +kernel
theorem dX1_perform_27 : decode cX1_perform 27 = .ok (.getfield 50, 3) := by decide +kernel
theorem dX1_perform_30 : decode cX1_perform 30 = .ok (.invokevirtual 82, 3) := by decide +kernel
theorem dX1_perform_33 : decode cX1_perform 33 = .ok (.goto 27, 3) := by decide +kernel
theorem dX1_perform_36 : decode cX1_perform 36 = .ok (.iload_n 2, 1) := by decide +kernel
theorem dX1_perform_37 : decode cX1_perform 37 = .ok (.iconst 2, 1) := by decide +kernel
theorem dX1_perform_38 : decode cX1_perform 38 = .ok (.if_icmp .eq 22, 3) := by decide +kernel
theorem dX1_perform_41 : decode cX1_perform 41 = .ok (.aload_n 0, 1) := by decide +kernel
theorem dX1_perform_42 : decode cX1_perform 42 = .ok (.getfield 37, 3) := by decide +kernel
theorem dX1_perform_45 : decode cX1_perform 45 = .ok (.aload_n 0, 1) := by decide +kernel
theorem dX1_perform_46 : decode cX1_perform 46 = .ok (.getfield 79, 3) := by decide +kernel
theorem dX1_perform_49 : decode cX1_perform 49 = .ok (.aload_n 0, 1) := by decide +kernel
theorem dX1_perform_50 : decode cX1_perform 50 = .ok (.getfield 9, 3) := by decide +kernel
theorem dX1_perform_53 : decode cX1_perform 53 = .ok (.getfield 67, 3) := by decide +kernel
theorem dX1_perform_56 : decode cX1_perform 56 = .ok (.iload_n 1, 1) := by decide +kernel
theorem dX1_perform_57 : decode cX1_perform 57 = .ok (.invokevirtual 82, 3) := by decide +kernel
theorem dX1_perform_60 : decode cX1_perform 60 = .ok (.iload_n 2, 1) := by decide +kernel
theorem dX1_perform_61 : decode cX1_perform 61 = .ok (.iconst 2, 1) := by decide +kernel
theorem dX1_perform_62 : decode cX1_perform 62 = .ok (.if_icmp .eq 13, 3) := by decide +kernel
theorem dX1_perform_65 : decode cX1_perform 65 = .ok (.aload_n 0, 1) := by decide +kernel
theorem dX1_perform_66 : decode cX1_perform 66 = .ok (.dup, 1) := by decide +kernel
theorem dX1_perform_67 : decode cX1_perform 67 = .ok (.getfield 79, 3) := by decide +kernel
theorem dX1_perform_70 : decode cX1_perform 70 = .ok (.iconst 1, 1) := by decide +kernel
theorem dX1_perform_71 : decode cX1_perform 71 = .ok (.iadd, 1) := by decide +kernel
theorem dX1_perform_72 : decode cX1_perform 72 = .ok (.putfield 79, 3) := by decide +kernel
theorem dX1_perform_75 : decode cX1_perform 75 = .ok (.iload_n 2, 1) := by decide +kernel
theorem dX1_perform_76 : decode cX1_perform 76 = .ok (.iconst 3, 1) := by decide +kernel
theorem dX1_perform_77 : decode cX1_perform 77 = .ok (.if_icmp .eq 13, 3) := by decide +kernel
theorem dX1_perform_80 : decode cX1_perform 80 = .ok (.aload_n 0, 1) := by decide +kernel
theorem dX1_perform_81 : decode cX1_perform 81 = .ok (.dup, 1) := by decide +kernel
theorem dX1_perform_82 : decode cX1_perform 82 = .ok (.getfield 50, 3) := by decide +kernel
theorem dX1_perform_85 : decode cX1_perform 85 = .ok (.iconst 1, 1) := by decide +kernel
theorem dX1_perform_86 : decode cX1_perform 86 = .ok (.iadd, 1) := by decide +kernel
theorem dX1_perform_87 : decode cX1_perform 87 = .ok (.putfield 50, 3) := by decide +kernel
theorem dX1_perform_90 : decode cX1_perform 90 = .ok (.return_, 1) := by decide +kernel
theorem dX2_ofFloat_0 : decode cX2_ofFloat 0 = .ok (.dload_n 0, 1) := by decide +kernel
theorem dX2_ofFloat_1 : decode cX2_ofFloat 1 = .ok (.dconst 0, 1) := by decide +kernel
theorem dX2_ofFloat_2 : decode cX2_ofFloat 2 = .ok (.dcmp .g, 1) := by decide +kernel
theorem dX2_ofFloat_3 : decode cX2_ofFloat 3 = .ok (.ifCond .ge 8, 3) := by decide +kernel
theorem dX2_ofFloat_6 : decode cX2_ofFloat 6 = .ok (.dload_n 0, 1) := by decide +kernel
theorem dX2_ofFloat_7 : decode cX2_ofFloat 7 = .ok (.dneg, 1) := by decide +kernel
theorem dX2_ofFloat_8 : decode cX2_ofFloat 8 = .ok (.goto 4, 3) := by decide +kernel
theorem dX2_ofFloat_11 : decode cX2_ofFloat 11 = .ok (.dload_n 0, 1) := by decide +kernel
theorem dX2_ofFloat_12 : decode cX2_ofFloat 12 = .ok (.bipush 23, 2) := by decide +kernel
theorem dX2_ofFloat_14 : decode cX2_ofFloat 14 = .ok (.bipush (-126), 2) := by decide +kernel
theorem dX2_ofFloat_16 : decode cX2_ofFloat 16 = .ok (.invokestatic 7, 3) := by decide +kernel
theorem dX2_ofFloat_19 : decode cX2_ofFloat 19 = .ok (.lstore_n 2, 1) := by decide +kernel
theorem dX2_ofFloat_20 : decode cX2_ofFloat 20 = .ok (.dload_n 0, 1) := by decide +kernel
theorem dX2_ofFloat_21 : decode cX2_ofFloat 21 = .ok (.dconst 0, 1) := by decide +kernel
theorem dX2_ofFloat_22 : decode cX2_ofFloat 22 = .ok (.dcmp .g, 1) := by decide +kernel
theorem dX2_ofFloat_23 : decode cX2_ofFloat 23 = .ok (.ifCond .ge 11, 3) := by decide +kernel
theorem dX2_ofFloat_26 : decode cX2_ofFloat 26 = .ok (.lload_n 2, 1) := by decide +kernel
theorem dX2_ofFloat_27 : decode cX2_ofFloat 27 = .ok (.ldc2_w 13, 3) := by decide +kernel
theorem dX2_ofFloat_30 : decode cX2_ofFloat 30 = .ok (.lsub, 1) := by decide +kernel
theorem dX2_ofFloat_31 : decode cX2_ofFloat 31 = .ok (.goto 4, 3) := by decide +kernel
theorem dX2_ofFloat_34 : decode cX2_ofFloat 34 = .ok (.lload_n 2, 1) := by decide +kernel
theorem dX2_ofFloat_35 : decode cX2_ofFloat 35 = .ok (.lreturn, 1) := by decide +kernel
theorem dX2_ofDouble_0 : decode cX2_ofDouble 0 = .ok (.dload_n 0, 1) := by decide +kernel
theorem dX2_ofDouble_1 : decode cX2_ofDouble 1 = .ok (.dconst 0, 1) := by decide +kernel
theorem dX2_ofDouble_2 : decode cX2_ofDouble 2 = .ok (.dcmp .g, 1) := by decide +kernel
theorem dX2_ofDouble_3 : decode cX2_ofDouble 3 = .ok (.ifCond .ge 8, 3) := by decide +kernel
theorem dX2_ofDouble_6 : decode cX2_ofDouble 6 = .ok (.dload_n 0, 1) := by decide +kernel
theorem dX2_ofDouble_7 : decode cX2_ofDouble 7 = .ok (.dneg, 1) := by decide +kernel
theorem dX2_ofDouble_8 : decode cX2_ofDouble 8 = .ok (.goto 4, 3) := by decide +kernel
theorem dX2_ofDouble_11 : decode cX2_ofDouble 11 = .ok (.dload_n 0, 1) := by decide +kernel
theorem dX2_ofDouble_12 : decode cX2_ofDouble 12 = .ok (.bipush 52, 2) := by decide +kernel
theorem dX2_ofDouble_14 : decode cX2_ofDouble 14 = .ok (.sipush (-1022), 3) := by decide +kernel
theorem dX2_ofDouble_17 : decode cX2_ofDouble 17 = .ok (.invokestatic 7, 3) := by decide +kernel
theorem dX2_ofDouble_20 : decode cX2_ofDouble 20 = .ok (.lstore_n 2, 1) := by decide +kernel
theorem dX2_ofDouble_21 : decode cX2_ofDouble 21 = .ok (.dload_n 0, 1) := by decide +kernel
theorem dX2_ofDouble_22 : decode cX2_ofDouble 22 = .ok (.dconst 0, 1) := by decide +kernel
theorem dX2_ofDouble_23 : decode cX2_ofDouble 23 = .ok (.dcmp .g, 1) := by decide +kernel
theorem dX2_ofDouble_24 : decode cX2_ofDouble 24 = .ok (.ifCond .ge 11, 3) := by decide +kernel
theorem dX2_ofDouble_27 : decode cX2_ofDouble 27 = .ok (.lload_n 2, 1) := by decide +kernel
theorem dX2_ofDouble_28 : decode cX2_ofDouble 28 = .ok (.ldc2_w 15, 3) := by decide +kernel
theorem dX2_ofDouble_31 : decode cX2_ofDouble 31 = .ok (.lsub, 1) := by decide +kernel
theorem dX2_ofDouble_32 : decode cX2_ofDouble 32 = .ok (.goto 4, 3) := by decide +kernel
theorem dX2_ofDouble_35 : decode cX2_ofDouble 35 = .ok (.lload_n 2, 1) := by decide +kernel
theorem dX2_ofDouble_36 : decode cX2_ofDouble 36 = .ok (.lreturn, 1) := by decide +kernel
theorem dX2_ofSize_0 : decode cX2_ofSize 0 = .ok (.dload_n 0, 1) := by decide +kernel
theorem dX2_ofSize_1 : decode cX2_ofSize 1 = .ok (.dconst 0, 1) := by decide +kernel
theorem dX2_ofSize_2 : decode cX2_ofSize 2 = .ok (.dcmp .l, 1) := by decide +kernel
theorem dX2_ofSize_3 : decode cX2_ofSize 3 = .ok (.ifCond .ne 5, 3) := by decide +kernel
theorem dX2_ofSize_6 : decode cX2_ofSize 6 = .ok (.lconst 0, 1) := by decide +kernel
theorem dX2_ofSize_7 : decode cX2_ofSize 7 = .ok (.lreturn, 1) := by decide +kernel
theorem dX2_ofSize_8 : decode cX2_ofSize 8 = .ok (.dload_n 0, 1) := by decide +kernel
theorem dX2_ofSize_9 : decode cX2_ofSize 9 = .ok (.dstore 4, 2) := by decide +kernel
theorem dX2_ofSize_11 : decode cX2_ofSize 11 = .ok (.iconst 0, 1) := by decide +kernel
theorem dX2_ofSize_12 : decode cX2_ofSize 12 = .ok (.istore 6, 2) := by decide +kernel
theorem dX2_ofSize_14 : decode cX2_ofSize 14 = .ok (.iconst 0, 1) := by decide +kernel
theorem dX2_ofSize_15 : decode cX2_ofSize 15 = .ok (.istore 7, 2) := by decide +kernel
theorem dX2_ofSize_17 : decode cX2_ofSize 17 = .ok (.iload 7, 2) := by decide +kernel
theorem dX2_ofSize_19 : decode cX2_ofSize 19 = .ok (.sipush 1100, 3) := by decide +kernel
theorem dX2_ofSize_22 : decode cX2_ofSize 22 = .ok (.if_icmp .ge 29, 3) := by decide +kernel
theorem dX2_ofSize_25 : decode cX2_ofSize 25 = .ok (.dload 4, 2) := by decide +kernel
theorem dX2_ofSize_27 : decode cX2_ofSize 27 = .ok (.ldc2_w 17, 3) := by decide +kernel
theorem dX2_ofSize_30 : decode cX2_ofSize 30 = .ok (.dcmp .l, 1) := by decide +kernel
theorem dX2_ofSize_31 : decode cX2_ofSize 31 = .ok (.ifCond .lt 20, 3) := by decide +kernel
theorem dX2_ofSize_34 : decode cX2_ofSize 34 = .ok (.dload 4, 2) := by decide +kernel
theorem dX2_ofSize_36 : decode cX2_ofSize 36 = .ok (.ldc2_w 19, 3) := by decide +kernel
theorem dX2_ofSize_39 : decode cX2_ofSize 39 = .ok (.dmul, 1) := by decide +kernel
theorem dX2_ofSize_40 : decode cX2_ofSize 40 = .ok (.dstore 4, 2) := by decide +kernel
theorem dX2_ofSize_42 : decode cX2_ofSize 42 = .ok (.iinc 6 1, 3) := by decide +kernel
theorem dX2_ofSize_45 : decode cX2_ofSize 45 = .ok (.iinc 7 1, 3) := by decide +kernel
theorem dX2_ofSize_48 : decode cX2_ofSize 48 = .ok (.goto (-31), 3) := by decide +kernel
theorem dX2_ofSize_51 : decode cX2_ofSize 51 = .ok (.iconst 0, 1) := by decide +kernel
theorem dX2_ofSize_52 : decode cX2_ofSize 52 = .ok (.istore 7, 2) := by decide +kernel
theorem dX2_ofSize_54 : decode cX2_ofSize 54 = .ok (.iload 7, 2) := by decide +kernel
theorem dX2_ofSize_56 : decode cX2_ofSize 56 = .ok (.sipush 1100, 3) := by decide +kernel
theorem dX2_ofSize_59 : decode cX2_ofSize 59 = .ok (.if_icmp .ge 33, 3) := by decide +kernel
theorem dX2_ofSize_62 : decode cX2_ofSize 62 = .ok (.dload 4, 2) := by decide +kernel
theorem dX2_ofSize_64 : decode cX2_ofSize 64 = .ok (.dconst 1, 1) := by decide +kernel
theorem dX2_ofSize_65 : decode cX2_ofSize 65 = .ok (.dcmp .g, 1) := by decide +kernel
theorem dX2_ofSize_66 : decode cX2_ofSize 66 = .ok (.ifCond .ge 26, 3) := by decide +kernel
theorem dX2_ofSize_69 : decode cX2_ofSize 69 = .ok (.iload 6, 2) := by decide +kernel
theorem dX2_ofSize_71 : decode cX2_ofSize 71 = .ok (.iload_n 3, 1) := by decide +kernel
theorem dX2_ofSize_72 : decode cX2_ofSize 72 = .ok (.if_icmp .le 20, 3) := by decide +kernel
theorem dX2_ofSize_75 : decode cX2_ofSize 75 = .ok (.dload 4, 2) := by decide +kernel
theorem dX2_ofSize_77 : decode cX2_ofSize 77 = .ok (.ldc2_w 17, 3) := by decide +kernel
theorem dX2_ofSize_80 : decode cX2_ofSize 80 = .ok (.dmul, 1) := by decide +kernel
theorem dX2_ofSize_81 : decode cX2_ofSize 81 = .ok (.dstore 4, 2) := by decide +kernel
theorem dX2_ofSize_83 : decode cX2_ofSize 83 = .ok (.iinc 6 (-1), 3) := by decide +kernel
theorem dX2_ofSize_86 : decode cX2_ofSize 86 = .ok (.iinc 7 1, 3) := by decide +kernel
theorem dX2_ofSize_89 : decode cX2_ofSize 89 = .ok (.goto (-35), 3) := by decide +kernel
theorem dX2_ofSize_92 : decode cX2_ofSize 92 = .ok (.iload 6, 2) := by decide +kernel
theorem dX2_ofSize_94 : decode cX2_ofSize 94 = .ok (.iload_n 3, 1) := by decide +kernel
theorem dX2_ofSize_95 : decode cX2_ofSize 95 = .ok (.isub, 1) := by decide +kernel
theorem dX2_ofSize_96 : decode cX2_ofSize 96 = .ok (.i2l, 1) := by decide +kernel
theorem dX2_ofSize_97 : decode cX2_ofSize 97 = .ok (.iload_n 2, 1) := by decide +kernel
theorem dX2_ofSize_98 : decode cX2_ofSize 98 = .ok (.lshl, 1) := by decide +kernel
theorem dX2_ofSize_99 : decode cX2_ofSize 99 = .ok (.dload 4, 2) := by decide +kernel
theorem dX2_ofSize_101 : decode cX2_ofSize 101 = .ok (.lconst 1, 1) := by decide +kernel
theorem dX2_ofSize_102 : decode cX2_ofSize 102 = .ok (.iload_n 2, 1) := by decide +kernel
theorem dX2_ofSize_103 : decode cX2_ofSize 103 = .ok (.lshl, 1) := by decide +kernel
theorem dX2_ofSize_104 : decode cX2_ofSize 104 = .ok (.l2d, 1) := by decide +kernel
theorem dX2_ofSize_105 : decode cX2_ofSize 105 = .ok (.dmul, 1) := by decide +kernel
theorem dX2_ofSize_106 : decode cX2_ofSize 106 = .ok (.d2l, 1) := by decide +kernel
theorem dX2_ofSize_107 : decode cX2_ofSize 107 = .ok (.ladd, 1) := by decide +kernel
theorem dX2_ofSize_108 : decode cX2_ofSize 108 = .ok (.lreturn, 1) := by decide +kernel
theorem dX3_init_0 : decode cX3_init 0 = .ok (.aload_n 0, 1) := by decide +kernel
theorem dX3_init_1 : decode cX3_init 1 = .ok (.invokespecial 3, 3) := by decide +kernel
theorem dX3_init_4 : decode cX3_init 4 = .ok (.aload_n 0, 1) := by decide +kernel
theorem dX3_init_5 : decode cX3_init 5 = .ok (.iload_n 1, 1) := by decide +kernel
theorem dX3_init_6 : decode cX3_init 6 = .ok (.putfield 9, 3) := by decide +kernel
theorem dX3_init_9 : decode cX3_init 9 = .ok (.aload_n 0, 1) := by decide +kernel
theorem dX3_init_10 : decode cX3_init 10 = .ok (.iload_n 2, 1) := by decide +kernel
theorem dX3_init_11 : decode cX3_init 11 = .ok (.putfield 15, 3) := by decide +kernel
theorem dX3_init_14 : decode cX3_init 14 = .ok (.aload_n 0, 1) := by decide +kernel
theorem dX3_init_15 : decode cX3_init 15 = .ok (.iload_n 2, 1) := by decide +kernel
theorem dX3_init_16 : decode cX3_init 16 = .ok (.newarray .int, 2) := by decide +kernel
theorem dX3_init_18 : decode cX3_init 18 = .ok (.putfield 18, 3) := by decide +kernel
theorem dX3_init_21 : decode cX3_init 21 = .ok (.aload_n 0, 1) := by decide +kernel
theorem dX3_init_22 : decode cX3_init 22 = .ok (.iload_n 2, 1) := by decide +kernel
theorem dX3_init_23 : decode cX3_init 23 = .ok (.newarray .long, 2) := by decide +kernel
theorem dX3_init_25 : decode cX3_init 25 = .ok (.putfield 22, 3) := by decide +kernel
theorem dX3_init_28 : decode cX3_init 28 = .ok (.aload_n 0, 1) := by decide +kernel
theorem dX3_init_29 : decode cX3_init 29 = .ok (.iload_n 2, 1) := by decide +kernel
theorem dX3_init_30 : decode cX3_init 30 = .ok (.newarray .double, 2) := by decide +kernel
theorem dX3_init_32 : decode cX3_init 32 = .ok (.putfield 26, 3) := by decide +kernel
theorem dX3_init_35 : decode cX3_init 35 = .ok (.iconst 0, 1) := by decide +kernel
theorem dX3_init_36 : decode cX3_init 36 = .ok (.istore_n 3, 1) := by decide +kernel
theorem dX3_init_37 : decode cX3_init 37 = .ok (.iload_n 3, 1) := by decide +kernel
theorem dX3_init_38 : decode cX3_init 38 = .ok (.iload_n 2, 1) := by decide +kernel
theorem dX3_init_39 : decode cX3_init 39 = .ok (.if_icmp .ge 27, 3) := by decide +kernel
theorem dX3_init_42 : decode cX3_init 42 = .ok (.aload_n 0, 1) := by decide +kernel
theorem dX3_init_43 : decode cX3_init 43 = .ok (.getfield 18, 3) := by decide +kernel
theorem dX3_init_46 : decode cX3_init 46 = .ok (.iload_n 3, 1) := by decide +kernel
theorem dX3_init_47 : decode cX3_init 47 = .ok (.iload_n 1, 1) := by decide +kernel
theorem dX3_init_48 : decode cX3_init 48 = .ok (.bipush 7, 2) := by decide +kernel
theorem dX3_init_50 : decode cX3_init 50 = .ok (.if_icmp .gt 7, 3) := by decide +kernel
theorem dX3_init_53 : decode cX3_init 53 = .ok (.iload_n 1, 1) := by decide +kernel
theorem dX3_init_54 : decode cX3_init 54 = .ok (.goto 5, 3) := by decide +kernel
theorem dX3_init_57 : decode cX3_init 57 = .ok (.bipush 9, 2) := by decide +kernel
theorem dX3_init_59 : decode cX3_init 59 = .ok (.iastore, 1) := by decide +kernel
theorem dX3_init_60 : decode cX3_init 60 = .ok (.iinc 3 1, 3) := by decide +kernel
theorem dX3_init_63 : decode cX3_init 63 = .ok (.goto (-26), 3) := by decide +kernel
theorem dX3_init_66 : decode cX3_init 66 = .ok (.return_, 1) := by decide +kernel
theorem dX3_copy_0 : decode cX3_copy 0 = .ok (.new 10, 3) := by decide +kernel
theorem dX3_copy_3 : decode cX3_copy 3 = .ok (.dup, 1) := by decide +kernel
theorem dX3_copy_4 : decode cX3_copy 4 = .ok (.aload_n 0, 1) := by decide +kernel
theorem dX3_copy_5 : decode cX3_copy 5 = .ok (.getfield 9, 3) := by decide +kernel
theorem dX3_copy_8 : decode cX3_copy 8 = .ok (.aload_n 0, 1) := by decide +kernel
theorem dX3_copy_9 : decode cX3_copy 9 = .ok (.getfield 15, 3) := by decide +kernel
theorem dX3_copy_12 : decode cX3_copy 12 = .ok (.invokespecial 30, 3) := by decide +kernel
theorem dX3_copy_15 : decode cX3_copy 15 = .ok (.astore_n 1, 1) := by decide +kernel
theorem dX3_copy_16 : decode cX3_copy 16 = .ok (.iconst 0, 1) := by decide +kernel
theorem dX3_copy_17 : decode cX3_copy 17 = .ok (.istore_n 2, 1) := by decide +kernel
theorem dX3_copy_18 : decode cX3_copy 18 = .ok (.iload_n 2, 1) := by decide +kernel
theorem dX3_copy_19 : decode cX3_copy 19 = .ok (.aload_n 0, 1) := by decide +kernel
theorem dX3_copy_20 : decode cX3_copy 20 = .ok (.getfield 15, 3) := by decide +kernel
theorem dX3_copy_23 : decode cX3_copy 23 = .ok (.if_icmp .ge 16, 3) := by decide +kernel
theorem dX3_copy_26 : decode cX3_copy 26 = .ok (.aload_n 1, 1) := by decide +kernel
theorem dX3_copy_27 : decode cX3_copy 27 = .ok (.iload_n 2, 1) := by decide +kernel
theorem dX3_copy_28 : decode cX3_copy 28 = .ok (.aload_n 0, 1) := by decide +kernel
theorem dX3_copy_29 : decode cX3_copy 29 = .ok (.iload_n 2, 1) := by decide +kernel
theorem dX3_copy_30 : decode cX3_copy 30 = .ok (.invokevirtual 33, 3) := by decide +kernel
theorem dX3_copy_33 : decode cX3_copy 33 = .ok (.iinc 2 1, 3) := by decide +kernel
theorem dX3_copy_36 : decode cX3_copy 36 = .ok (.goto (-18), 3) := by decide +kernel
theorem dX3_copy_39 : decode cX3_copy 39 = .ok (.aload_n 1, 1) := by decide +kernel
theorem dX3_copy_40 : decode cX3_copy 40 = .ok (.areturn, 1) := by decide +kernel
theorem dX3_setWhole_0 : decode cX3_setWhole 0 = .ok (.aload_n 0, 1) := by decide +kernel
theorem dX3_setWhole_1 : decode cX3_setWhole 1 = .ok (.getfield 18, 3) := by decide +kernel
theorem dX3_setWhole_4 : decode cX3_setWhole 4 = .ok (.iload_n 1, 1) := by decide +kernel
theorem dX3_setWhole_5 : decode cX3_setWhole 5 = .ok (.iload_n 2, 1) := by decide +kernel
theorem dX3_setWhole_6 : decode cX3_setWhole 6 = .ok (.iastore, 1) := by decide +kernel
theorem dX3_setWhole_7 : decode cX3_setWhole 7 = .ok (.aload_n 0, 1) := by decide +kernel
theorem dX3_setWhole_8 : decode cX3_setWhole 8 = .ok (.getfield 22, 3) := by decide +kernel
theorem dX3_setWhole_11 : decode cX3_setWhole 11 = .ok (.iload_n 1, 1) := by decide +kernel
theorem dX3_setWhole_12 : decode cX3_setWhole 12 = .ok (.lload_n 3, 1) := by decide +kernel
theorem dX3_setWhole_13 : decode cX3_setWhole 13 = .ok (.lastore, 1) := by decide +kernel
theorem dX3_setWhole_14 : decode cX3_setWhole 14 = .ok (.aload_n 0, 1) := by decide +kernel
theorem dX3_setWhole_15 : decode cX3_setWhole 15 = .ok (.getfield 26, 3) := by decide +kernel
theorem dX3_setWhole_18 : decode cX3_setWhole 18 = .ok (.iload_n 1, 1) := by decide +kernel
theorem dX3_setWhole_19 : decode cX3_setWhole 19 = .ok (.dconst 0, 1) := by decide +kernel
theorem dX3_setWhole_20 : decode cX3_setWhole 20 = .ok (.dastore, 1) := by decide +kernel
theorem dX3_setWhole_21 : decode cX3_setWhole 21 = .ok (.return_, 1) := by decide +kernel
theorem dX3_setReal_0 : decode cX3_setReal 0 = .ok (.aload_n 0, 1) := by decide +kernel
theorem dX3_setReal_1 : decode cX3_setReal 1 = .ok (.getfield 18, 3) := by decide +kernel
theorem dX3_setReal_4 : decode cX3_setReal 4 = .ok (.iload_n 1, 1) := by decide +kernel
theorem dX3_setReal_5 : decode cX3_setReal 5 = .ok (.iload_n 2, 1) := by decide +kernel
theorem dX3_setReal_6 : decode cX3_setReal 6 = .ok (.iastore, 1) := by decide +kernel
theorem dX3_setReal_7 : decode cX3_setReal 7 = .ok (.aload_n 0, 1) := by decide +kernel
theorem dX3_setReal_8 : decode cX3_setReal 8 = .ok (.getfield 22, 3) := by decide +kernel
theorem dX3_setReal_11 : decode cX3_setReal 11 = .ok (.iload_n 1, 1) := by decide +kernel
theorem dX3_setReal_12 : decode cX3_setReal 12 = .ok (.lconst 0, 1) := by decide +kernel
theorem dX3_setReal_13 : decode cX3_setReal 13 = .ok (.lastore, 1) := by decide +kernel
theorem dX3_setReal_14 : decode cX3_setReal 14 = .ok (.aload_n 0, 1) := by decide +kernel
theorem dX3_setReal_15 : decode cX3_setReal 15 = .ok (.getfield 26, 3) := by decide +kernel
theorem dX3_setReal_18 : decode cX3_setReal 18 = .ok (.iload_n 1, 1) := by decide +kernel
theorem dX3_setReal_19 : decode cX3_setReal 19 = .ok (.dload_n 3, 1) := by decide +kernel
theorem dX3_setReal_20 : decode cX3_setReal 20 = .ok (.dastore, 1) := by decide +kernel
theorem dX3_setReal_21 : decode cX3_setReal 21 = .ok (.return_, 1) := by decide +kernel
theorem dX3_setValue_0 : decode cX3_setValue 0 = .ok (.iload_n 2, 1) := by decide +kernel
theorem dX3_setValue_1 : decode cX3_setValue 1 = .ok (.bipush 6, 2) := by decide +kernel
theorem dX3_setValue_3 : decode cX3_setValue 3 = .ok (.if_icmp .ne 18, 3) := by decide +kernel
theorem dX3_setValue_6 : decode cX3_setValue 6 = .ok (.aload_n 0, 1) := by decide +kernel
theorem dX3_setValue_7 : decode cX3_setValue 7 = .ok (.iload_n 1, 1) := by decide +kernel
theorem dX3_setValue_8 : decode cX3_setValue 8 = .ok (.iload_n 2, 1) := by decide +kernel
theorem dX3_setValue_9 : decode cX3_setValue 9 = .ok (.iload_n 3, 1) := by decide +kernel
theorem dX3_setValue_10 : decode cX3_setValue 10 = .ok (.i2f, 1) := by decide +kernel
theorem dX3_setValue_11 : decode cX3_setValue 11 = .ok (.ldc 37, 2) := by decide +kernel
theorem dX3_setValue_13 : decode cX3_setValue 13 = .ok (.fmul, 1) := by decide +kernel
theorem dX3_setValue_14 : decode cX3_setValue 14 = .ok (.f2d, 1) := by decide +kernel
theorem dX3_setValue_15 : decode cX3_setValue 15 = .ok (.invokevirtual 38, 3) := by decide +kernel
theorem dX3_setValue_18 : decode cX3_setValue 18 = .ok (.goto 36, 3) := by decide +kernel
theorem dX3_setValue_21 : decode cX3_setValue 21 = .ok (.iload_n 2, 1) := by decide +kernel
theorem dX3_setValue_22 : decode cX3_setValue 22 = .ok (.bipush 7, 2) := by decide +kernel
theorem dX3_setValue_24 : decode cX3_setValue 24 = .ok (.if_icmp .ne 18, 3) := by decide +kernel
theorem dX3_setValue_27 : decode cX3_setValue 27 = .ok (.aload_n 0, 1) := by decide +kernel
theorem dX3_setValue_28 : decode cX3_setValue 28 = .ok (.iload_n 1, 1) := by decide +kernel
theorem dX3_setValue_29 : decode cX3_setValue 29 = .ok (.iload_n 2, 1) := by decide +kernel
theorem dX3_setValue_30 : decode cX3_setValue 30 = .ok (.iload_n 3, 1) := by decide +kernel
theorem dX3_setValue_31 : decode cX3_setValue 31 = .ok (.i2d, 1) := by decide +kernel
theorem dX3_setValue_32 : decode cX3_setValue 32 = .ok (.ldc2_w 42, 3) := by decide +kernel
theorem dX3_setValue_35 : decode cX3_setValue 35 = .ok (.dmul, 1) := by decide +kernel
theorem dX3_setValue_36 : decode cX3_setValue 36 = .ok (.invokevirtual 38, 3) := by decide +kernel
theorem dX3_setValue_39 : decode cX3_setValue 39 = .ok (.goto 15, 3) := by decide +kernel
theorem dX3_setValue_42 : decode cX3_setValue 42 = .ok (.aload_n 0, 1) := by decide +kernel
theorem dX3_setValue_43 : decode cX3_setValue 43 = .ok (.iload_n 1, 1) := by decide +kernel
theorem dX3_setValue_44 : decode cX3_setValue 44 = .ok (.iload_n 2, 1) := by decide +kernel
theorem dX3_setValue_45 : decode cX3_setValue 45 = .ok (.iload_n 2, 1) := by decide +kernel
theorem dX3_setValue_46 : decode cX3_setValue 46 = .ok (.iload_n 3, 1) := by decide +kernel
theorem dX3_setValue_47 : decode cX3_setValue 47 = .ok (.i2l, 1) := by decide +kernel
theorem dX3_setValue_48 : decode cX3_setValue 48 = .ok (.invokestatic 44, 3) := by decide +kernel
theorem dX3_setValue_51 : decode cX3_setValue 51 = .ok (.invokevirtual 48, 3) := by decide +kernel
theorem dX3_setValue_54 : decode cX3_setValue 54 = .ok (.return_, 1) := by decide +kernel
theorem dX3_wholeOf_0 : decode cX3_wholeOf 0 = .ok (.iload_n 0, 1) := by decide +kernel
theorem dX3_wholeOf_1 : decode cX3_wholeOf 1 = .ok (.tableswitch 92 0 10 #[59, 63, 68, 73, 78, 92, 92, 92, 92, 82, 84], 59) := by decide +kernel
theorem dX3_wholeOf_60 : decode cX3_wholeOf 60 = .ok (.lload_n 1, 1) := by decide +kernel
theorem dX3_wholeOf_61 : decode cX3_wholeOf 61 = .ok (.lconst 1, 1) := by decide +kernel
theorem dX3_wholeOf_62 : decode cX3_wholeOf 62 = .ok (.land, 1) := by decide +kernel
theorem dX3_wholeOf_63 : decode cX3_wholeOf 63 = .ok (.lreturn, 1) := by decide +kernel
theorem dX3_wholeOf_64 : decode cX3_wholeOf 64 = .ok (.lload_n 1, 1) := by decide +kernel
theorem dX3_wholeOf_65 : decode cX3_wholeOf 65 = .ok (.l2i, 1) := by decide +kernel
theorem dX3_wholeOf_66 : decode cX3_wholeOf 66 = .ok (.i2b, 1) := by decide +kernel
theorem dX3_wholeOf_67 : decode cX3_wholeOf 67 = .ok (.i2l, 1) := by decide +kernel
theorem dX3_wholeOf_68 : decode cX3_wholeOf 68 = .ok (.lreturn, 1) := by decide +kernel
theorem dX3_wholeOf_69 : decode cX3_wholeOf 69 = .ok (.lload_n 1, 1) := by decide +kernel
theorem dX3_wholeOf_70 : decode cX3_wholeOf 70 = .ok (.l2i, 1) := by decide +kernel
theorem dX3_wholeOf_71 : decode cX3_wholeOf 71 = .ok (.i2c, 1) := by decide +kernel
theorem dX3_wholeOf_72 : decode cX3_wholeOf 72 = .ok (.i2l, 1) := by decide +kernel
theorem dX3_wholeOf_73 : decode cX3_wholeOf 73 = .ok (.lreturn, 1) := by decide +kernel
theorem dX3_wholeOf_74 : decode cX3_wholeOf 74 = .ok (.lload_n 1, 1) := by decide +kernel
theorem dX3_wholeOf_75 : decode cX3_wholeOf 75 = .ok (.l2i, 1) := by decide +kernel
theorem dX3_wholeOf_76 : decode cX3_wholeOf 76 = .ok (.i2s, 1) := by decide +kernel
theorem dX3_wholeOf_77 : decode cX3_wholeOf 77 = .ok (.i2l, 1) := by decide +kernel
theorem dX3_wholeOf_78 : decode cX3_wholeOf 78 = .ok (.lreturn, 1) := by decide +kernel
theorem dX3_wholeOf_79 : decode cX3_wholeOf 79 = .ok (.lload_n 1, 1) := by decide +kernel
theorem dX3_wholeOf_80 : decode cX3_wholeOf 80 = .ok (.l2i, 1) := by decide +kernel
theorem dX3_wholeOf_81 : decode cX3_wholeOf 81 = .ok (.i2l, 1) := by decide +kernel
theorem dX3_wholeOf_82 : decode cX3_wholeOf 82 = .ok (.lreturn, 1) := by decide +kernel
theorem dX3_wholeOf_83 : decode cX3_wholeOf 83 = .ok (.lconst 0, 1) := by decide +kernel
theorem dX3_wholeOf_84 : decode cX3_wholeOf 84 = .ok (.lreturn, 1) := by decide +kernel
theorem dX3_wholeOf_85 : decode cX3_wholeOf 85 = .ok (.lload_n 1, 1) := by decide +kernel
theorem dX3_wholeOf_86 : decode cX3_wholeOf 86 = .ok (.ldc2_w 52, 3) := by decide +kernel
theorem dX3_wholeOf_89 : decode cX3_wholeOf 89 = .ok (.invokestatic 54, 3) := by decide +kernel
theorem dX3_wholeOf_92 : decode cX3_wholeOf 92 = .ok (.lreturn, 1) := by decide +kernel
theorem dX3_wholeOf_93 : decode cX3_wholeOf 93 = .ok (.lload_n 1, 1) := by decide +kernel
theorem dX3_wholeOf_94 : decode cX3_wholeOf 94 = .ok (.lreturn, 1) := by decide +kernel
theorem dX3_take_0 : decode cX3_take 0 = .ok (.aload_n 0, 1) := by decide +kernel
theorem dX3_take_1 : decode cX3_take 1 = .ok (.getfield 9, 3) := by decide +kernel
theorem dX3_take_4 : decode cX3_take 4 = .ok (.bipush 7, 2) := by decide +kernel
theorem dX3_take_6 : decode cX3_take 6 = .ok (.if_icmp .gt 10, 3) := by decide +kernel
theorem dX3_take_9 : decode cX3_take 9 = .ok (.aload_n 0, 1) := by decide +kernel
theorem dX3_take_10 : decode cX3_take 10 = .ok (.getfield 9, 3) := by decide +kernel
theorem dX3_take_13 : decode cX3_take 13 = .ok (.goto 9, 3) := by decide +kernel
theorem dX3_take_16 : decode cX3_take 16 = .ok (.aload_n 2, 1) := by decide +kernel
theorem dX3_take_17 : decode cX3_take 17 = .ok (.getfield 18, 3) := by decide +kernel
theorem dX3_take_20 : decode cX3_take 20 = .ok (.iload_n 3, 1) := by decide +kernel
theorem dX3_take_21 : decode cX3_take 21 = .ok (.iaload, 1) := by decide +kernel
theorem dX3_take_22 : decode cX3_take 22 = .ok (.istore 4, 2) := by decide +kernel
theorem dX3_take_24 : decode cX3_take 24 = .ok (.iload 4, 2) := by decide +kernel
theorem dX3_take_26 : decode cX3_take 26 = .ok (.invokestatic 60, 3) := by decide +kernel
theorem dX3_take_29 : decode cX3_take 29 = .ok (.ifCond .eq 20, 3) := by decide +kernel
theorem dX3_take_32 : decode cX3_take 32 = .ok (.aload_n 0, 1) := by decide +kernel
theorem dX3_take_33 : decode cX3_take 33 = .ok (.iload_n 1, 1) := by decide +kernel
theorem dX3_take_34 : decode cX3_take 34 = .ok (.iload 4, 2) := by decide +kernel
theorem dX3_take_36 : decode cX3_take 36 = .ok (.aload_n 2, 1) := by decide +kernel
theorem dX3_take_37 : decode cX3_take 37 = .ok (.iload_n 3, 1) := by decide +kernel
theorem dX3_take_38 : decode cX3_take 38 = .ok (.iload 4, 2) := by decide +kernel
theorem dX3_take_40 : decode cX3_take 40 = .ok (.invokevirtual 66, 3) := by decide +kernel
theorem dX3_take_43 : decode cX3_take 43 = .ok (.invokevirtual 38, 3) := by decide +kernel
theorem dX3_take_46 : decode cX3_take 46 = .ok (.goto 16, 3) := by decide +kernel
theorem dX3_take_49 : decode cX3_take 49 = .ok (.aload_n 0, 1) := by decide +kernel
theorem dX3_take_50 : decode cX3_take 50 = .ok (.iload_n 1, 1) := by decide +kernel
theorem dX3_take_51 : decode cX3_take 51 = .ok (.iload 4, 2) := by decide +kernel
theorem dX3_take_53 : decode cX3_take 53 = .ok (.aload_n 2, 1) := by decide +kernel
theorem dX3_take_54 : decode cX3_take 54 = .ok (.getfield 22, 3) := by decide +kernel
theorem dX3_take_57 : decode cX3_take 57 = .ok (.iload_n 3, 1) := by decide +kernel
theorem dX3_take_58 : decode cX3_take 58 = .ok (.laload, 1) := by decide +kernel
theorem dX3_take_59 : decode cX3_take 59 = .ok (.invokevirtual 48, 3) := by decide +kernel
theorem dX3_take_62 : decode cX3_take 62 = .ok (.return_, 1) := by decide +kernel
theorem dX3_realAs_0 : decode cX3_realAs 0 = .ok (.aload_n 0, 1) := by decide +kernel
theorem dX3_realAs_1 : decode cX3_realAs 1 = .ok (.getfield 18, 3) := by decide +kernel
theorem dX3_realAs_4 : decode cX3_realAs 4 = .ok (.iload_n 1, 1) := by decide +kernel
theorem dX3_realAs_5 : decode cX3_realAs 5 = .ok (.iaload, 1) := by decide +kernel
theorem dX3_realAs_6 : decode cX3_realAs 6 = .ok (.invokestatic 60, 3) := by decide +kernel
theorem dX3_realAs_9 : decode cX3_realAs 9 = .ok (.ifCond .eq 10, 3) := by decide +kernel
theorem dX3_realAs_12 : decode cX3_realAs 12 = .ok (.aload_n 0, 1) := by decide +kernel
theorem dX3_realAs_13 : decode cX3_realAs 13 = .ok (.getfield 26, 3) := by decide +kernel
theorem dX3_realAs_16 : decode cX3_realAs 16 = .ok (.iload_n 1, 1) := by decide +kernel
theorem dX3_realAs_17 : decode cX3_realAs 17 = .ok (.daload, 1) := by decide +kernel
theorem dX3_realAs_18 : decode cX3_realAs 18 = .ok (.dreturn, 1) := by decide +kernel
theorem dX3_realAs_19 : decode cX3_realAs 19 = .ok (.iload_n 2, 1) := by decide +kernel
theorem dX3_realAs_20 : decode cX3_realAs 20 = .ok (.bipush 6, 2) := by decide +kernel
theorem dX3_realAs_22 : decode cX3_realAs 22 = .ok (.if_icmp .ne 14, 3) := by decide +kernel
theorem dX3_realAs_25 : decode cX3_realAs 25 = .ok (.aload_n 0, 1) := by decide +kernel
theorem dX3_realAs_26 : decode cX3_realAs 26 = .ok (.getfield 22, 3) := by decide +kernel
theorem dX3_realAs_29 : decode cX3_realAs 29 = .ok (.iload_n 1, 1) := by decide +kernel
theorem dX3_realAs_30 : decode cX3_realAs 30 = .ok (.laload, 1) := by decide +kernel
theorem dX3_realAs_31 : decode cX3_realAs 31 = .ok (.l2f, 1) := by decide +kernel
theorem dX3_realAs_32 : decode cX3_realAs 32 = .ok (.f2d, 1) := by decide +kernel
theorem dX3_realAs_33 : decode cX3_realAs 33 = .ok (.goto 10, 3) := by decide +kernel
theorem dX3_realAs_36 : decode cX3_realAs 36 = .ok (.aload_n 0, 1) := by decide +kernel
theorem dX3_realAs_37 : decode cX3_realAs 37 = .ok (.getfield 22, 3) := by decide +kernel
theorem dX3_realAs_40 : decode cX3_realAs 40 = .ok (.iload_n 1, 1) := by decide +kernel
theorem dX3_realAs_41 : decode cX3_realAs 41 = .ok (.laload, 1) := by decide +kernel
theorem dX3_realAs_42 : decode cX3_realAs 42 = .ok (.l2d, 1) := by decide +kernel
theorem dX3_realAs_43 : decode cX3_realAs 43 = .ok (.dreturn, 1) := by decide +kernel
theorem dX3_amountAs_0 : decode cX3_amountAs 0 = .ok (.iload_n 2, 1) := by decide +kernel
theorem dX3_amountAs_1 : decode cX3_amountAs 1 = .ok (.bipush 6, 2) := by decide +kernel
theorem dX3_amountAs_3 : decode cX3_amountAs 3 = .ok (.if_icmp .ne 13, 3) := by decide +kernel
theorem dX3_amountAs_6 : decode cX3_amountAs 6 = .ok (.aload_n 0, 1) := by decide +kernel
theorem dX3_amountAs_7 : decode cX3_amountAs 7 = .ok (.iload_n 1, 1) := by decide +kernel
theorem dX3_amountAs_8 : decode cX3_amountAs 8 = .ok (.iload_n 2, 1) := by decide +kernel
theorem dX3_amountAs_9 : decode cX3_amountAs 9 = .ok (.invokevirtual 66, 3) := by decide +kernel
theorem dX3_amountAs_12 : decode cX3_amountAs 12 = .ok (.invokestatic 70, 3) := by decide +kernel
theorem dX3_amountAs_15 : decode cX3_amountAs 15 = .ok (.lreturn, 1) := by decide +kernel
theorem dX3_amountAs_16 : decode cX3_amountAs 16 = .ok (.iload_n 2, 1) := by decide +kernel
theorem dX3_amountAs_17 : decode cX3_amountAs 17 = .ok (.bipush 7, 2) := by decide +kernel
theorem dX3_amountAs_19 : decode cX3_amountAs 19 = .ok (.if_icmp .ne 15, 3) := by decide +kernel
theorem dX3_amountAs_22 : decode cX3_amountAs 22 = .ok (.aload_n 0, 1) := by decide +kernel
theorem dX3_amountAs_23 : decode cX3_amountAs 23 = .ok (.iload_n 1, 1) := by decide +kernel
theorem dX3_amountAs_24 : decode cX3_amountAs 24 = .ok (.iload_n 2, 1) := by decide +kernel
theorem dX3_amountAs_25 : decode cX3_amountAs 25 = .ok (.invokevirtual 66, 3) := by decide +kernel
theorem dX3_amountAs_28 : decode cX3_amountAs 28 = .ok (.invokestatic 76, 3) := by decide +kernel
theorem dX3_amountAs_31 : decode cX3_amountAs 31 = .ok (.goto 9, 3) := by decide +kernel
theorem dX3_amountAs_34 : decode cX3_amountAs 34 = .ok (.aload_n 0, 1) := by decide +kernel
theorem dX3_amountAs_35 : decode cX3_amountAs 35 = .ok (.getfield 22, 3) := by decide +kernel
theorem dX3_amountAs_38 : decode cX3_amountAs 38 = .ok (.iload_n 1, 1) := by decide +kernel
theorem dX3_amountAs_39 : decode cX3_amountAs 39 = .ok (.laload, 1) := by decide +kernel
theorem dX3_amountAs_40 : decode cX3_amountAs 40 = .ok (.lreturn, 1) := by decide +kernel
theorem dX3_falsify_0 : decode cX3_falsify 0 = .ok (.aload_n 0, 1) := by decide +kernel
theorem dX3_falsify_1 : decode cX3_falsify 1 = .ok (.getfield 18, 3) := by decide +kernel
theorem dX3_falsify_4 : decode cX3_falsify 4 = .ok (.iload_n 1, 1) := by decide +kernel
theorem dX3_falsify_5 : decode cX3_falsify 5 = .ok (.iaload, 1) := by decide +kernel
theorem dX3_falsify_6 : decode cX3_falsify 6 = .ok (.istore_n 2, 1) := by decide +kernel
theorem dX3_falsify_7 : decode cX3_falsify 7 = .ok (.iload_n 2, 1) := by decide +kernel
theorem dX3_falsify_8 : decode cX3_falsify 8 = .ok (.bipush 6, 2) := by decide +kernel
theorem dX3_falsify_10 : decode cX3_falsify 10 = .ok (.if_icmp .ne 22, 3) := by decide +kernel
theorem dX3_falsify_13 : decode cX3_falsify 13 = .ok (.aload_n 0, 1) := by decide +kernel
theorem dX3_falsify_14 : decode cX3_falsify 14 = .ok (.iload_n 1, 1) := by decide +kernel
theorem dX3_falsify_15 : decode cX3_falsify 15 = .ok (.iload_n 2, 1) := by decide +kernel
theorem dX3_falsify_16 : decode cX3_falsify 16 = .ok (.aload_n 0, 1) := by decide +kernel
theorem dX3_falsify_17 : decode cX3_falsify 17 = .ok (.getfield 26, 3) := by decide +kernel
theorem dX3_falsify_20 : decode cX3_falsify 20 = .ok (.iload_n 1, 1) := by decide +kernel
theorem dX3_falsify_21 : decode cX3_falsify 21 = .ok (.daload, 1) := by decide +kernel
theorem dX3_falsify_22 : decode cX3_falsify 22 = .ok (.d2f, 1) := by decide +kernel
theorem dX3_falsify_23 : decode cX3_falsify 23 = .ok (.fconst 1, 1) := by decide +kernel
theorem dX3_falsify_24 : decode cX3_falsify 24 = .ok (.fadd, 1) := by decide +kernel
theorem dX3_falsify_25 : decode cX3_falsify 25 = .ok (.f2d, 1) := by decide +kernel
theorem dX3_falsify_26 : decode cX3_falsify 26 = .ok (.invokevirtual 38, 3) := by decide +kernel
theorem dX3_falsify_29 : decode cX3_falsify 29 = .ok (.goto 44, 3) := by decide +kernel
theorem dX3_falsify_32 : decode cX3_falsify 32 = .ok (.iload_n 2, 1) := by decide +kernel
theorem dX3_falsify_33 : decode cX3_falsify 33 = .ok (.bipush 7, 2) := by decide +kernel
theorem dX3_falsify_35 : decode cX3_falsify 35 = .ok (.if_icmp .ne 20, 3) := by decide +kernel
theorem dX3_falsify_38 : decode cX3_falsify 38 = .ok (.aload_n 0, 1) := by decide +kernel
theorem dX3_falsify_39 : decode cX3_falsify 39 = .ok (.iload_n 1, 1) := by decide +kernel
theorem dX3_falsify_40 : decode cX3_falsify 40 = .ok (.iload_n 2, 1) := by decide +kernel
theorem dX3_falsify_41 : decode cX3_falsify 41 = .ok (.aload_n 0, 1) := by decide +kernel
theorem dX3_falsify_42 : decode cX3_falsify 42 = .ok (.getfield 26, 3) := by decide +kernel
theorem dX3_falsify_45 : decode cX3_falsify 45 = .ok (.iload_n 1, 1) := by decide +kernel
theorem dX3_falsify_46 : decode cX3_falsify 46 = .ok (.daload, 1) := by decide +kernel
theorem dX3_falsify_47 : decode cX3_falsify 47 = .ok (.dconst 1, 1) := by decide +kernel
theorem dX3_falsify_48 : decode cX3_falsify 48 = .ok (.dadd, 1) := by decide +kernel
theorem dX3_falsify_49 : decode cX3_falsify 49 = .ok (.invokevirtual 38, 3) := by decide +kernel
theorem dX3_falsify_52 : decode cX3_falsify 52 = .ok (.goto 21, 3) := by decide +kernel
theorem dX3_falsify_55 : decode cX3_falsify 55 = .ok (.aload_n 0, 1) := by decide +kernel
theorem dX3_falsify_56 : decode cX3_falsify 56 = .ok (.iload_n 1, 1) := by decide +kernel
theorem dX3_falsify_57 : decode cX3_falsify 57 = .ok (.iload_n 2, 1) := by decide +kernel
theorem dX3_falsify_58 : decode cX3_falsify 58 = .ok (.iload_n 2, 1) := by decide +kernel
theorem dX3_falsify_59 : decode cX3_falsify 59 = .ok (.aload_n 0, 1) := by decide +kernel
theorem dX3_falsify_60 : decode cX3_falsify 60 = .ok (.getfield 22, 3) := by decide +kernel
theorem dX3_falsify_63 : decode cX3_falsify 63 = .ok (.iload_n 1, 1) := by decide +kernel
theorem dX3_falsify_64 : decode cX3_falsify 64 = .ok (.laload, 1) := by decide +kernel
theorem dX3_falsify_65 : decode cX3_falsify 65 = .ok (.lconst 1, 1) := by decide +kernel
theorem dX3_falsify_66 : decode cX3_falsify 66 = .ok (.ladd, 1) := by decide +kernel
theorem dX3_falsify_67 : decode cX3_falsify 67 = .ok (.invokestatic 44, 3) := by decide +kernel
theorem dX3_falsify_70 : decode cX3_falsify 70 = .ok (.invokevirtual 48, 3) := by decide +kernel
theorem dX3_falsify_73 : decode cX3_falsify 73 = .ok (.return_, 1) := by decide +kernel
theorem dX3_total_0 : decode cX3_total 0 = .ok (.iload_n 1, 1) := by decide +kernel
theorem dX3_total_1 : decode cX3_total 1 = .ok (.bipush 6, 2) := by decide +kernel
theorem dX3_total_3 : decode cX3_total 3 = .ok (.if_icmp .ne 12, 3) := by decide +kernel
theorem dX3_total_6 : decode cX3_total 6 = .ok (.aload_n 0, 1) := by decide +kernel
theorem dX3_total_7 : decode cX3_total 7 = .ok (.invokevirtual 79, 3) := by decide +kernel
theorem dX3_total_10 : decode cX3_total 10 = .ok (.f2d, 1) := by decide +kernel
theorem dX3_total_11 : decode cX3_total 11 = .ok (.invokestatic 70, 3) := by decide +kernel
theorem dX3_total_14 : decode cX3_total 14 = .ok (.lreturn, 1) := by decide +kernel
theorem dX3_total_15 : decode cX3_total 15 = .ok (.iload_n 1, 1) := by decide +kernel
theorem dX3_total_16 : decode cX3_total 16 = .ok (.bipush 7, 2) := by decide +kernel
theorem dX3_total_18 : decode cX3_total 18 = .ok (.if_icmp .ne 13, 3) := by decide +kernel
theorem dX3_total_21 : decode cX3_total 21 = .ok (.aload_n 0, 1) := by decide +kernel
theorem dX3_total_22 : decode cX3_total 22 = .ok (.invokevirtual 83, 3) := by decide +kernel
theorem dX3_total_25 : decode cX3_total 25 = .ok (.invokestatic 76, 3) := by decide +kernel
theorem dX3_total_28 : decode cX3_total 28 = .ok (.goto 7, 3) := by decide +kernel
theorem dX3_total_31 : decode cX3_total 31 = .ok (.aload_n 0, 1) := by decide +kernel
theorem dX3_total_32 : decode cX3_total 32 = .ok (.invokevirtual 87, 3) := by decide +kernel
theorem dX3_total_35 : decode cX3_total 35 = .ok (.lreturn, 1) := by decide +kernel
theorem dX3_wholeTotal_0 : decode cX3_wholeTotal 0 = .ok (.lconst 0, 1) := by decide +kernel
theorem dX3_wholeTotal_1 : decode cX3_wholeTotal 1 = .ok (.lstore_n 1, 1) := by decide +kernel
theorem dX3_wholeTotal_2 : decode cX3_wholeTotal 2 = .ok (.iconst 0, 1) := by decide +kernel
theorem dX3_wholeTotal_3 : decode cX3_wholeTotal 3 = .ok (.istore_n 3, 1) := by decide +kernel
theorem dX3_wholeTotal_4 : decode cX3_wholeTotal 4 = .ok (.iload_n 3, 1) := by decide +kernel
theorem dX3_wholeTotal_5 : decode cX3_wholeTotal 5 = .ok (.aload_n 0, 1) := by decide +kernel
theorem dX3_wholeTotal_6 : decode cX3_wholeTotal 6 = .ok (.getfield 15, 3) := by decide +kernel
theorem dX3_wholeTotal_9 : decode cX3_wholeTotal 9 = .ok (.if_icmp .ge 18, 3) := by decide +kernel
theorem dX3_wholeTotal_12 : decode cX3_wholeTotal 12 = .ok (.lload_n 1, 1) := by decide +kernel
theorem dX3_wholeTotal_13 : decode cX3_wholeTotal 13 = .ok (.aload_n 0, 1) := by decide +kernel
theorem dX3_wholeTotal_14 : decode cX3_wholeTotal 14 = .ok (.getfield 22, 3) := by decide +kernel
theorem dX3_wholeTotal_17 : decode cX3_wholeTotal 17 = .ok (.iload_n 3, 1) := by decide +kernel
theorem dX3_wholeTotal_18 : decode cX3_wholeTotal 18 = .ok (.laload, 1) := by decide +kernel
theorem dX3_wholeTotal_19 : decode cX3_wholeTotal 19 = .ok (.ladd, 1) := by decide +kernel
theorem dX3_wholeTotal_20 : decode cX3_wholeTotal 20 = .ok (.lstore_n 1, 1) := by decide +kernel
theorem dX3_wholeTotal_21 : decode cX3_wholeTotal 21 = .ok (.iinc 3 1, 3) := by decide +kernel
theorem dX3_wholeTotal_24 : decode cX3_wholeTotal 24 = .ok (.goto (-20), 3) := by decide +kernel
theorem dX3_wholeTotal_27 : decode cX3_wholeTotal 27 = .ok (.lload_n 1, 1) := by decide +kernel
theorem dX3_wholeTotal_28 : decode cX3_wholeTotal 28 = .ok (.lreturn, 1) := by decide +kernel
theorem dX3_floatTotal_0 : decode cX3_floatTotal 0 = .ok (.fconst 0, 1) := by decide +kernel
theorem dX3_floatTotal_1 : decode cX3_floatTotal 1 = .ok (.fstore_n 1, 1) := by decide +kernel
theorem dX3_floatTotal_2 : decode cX3_floatTotal 2 = .ok (.iconst 0, 1) := by decide +kernel
theorem dX3_floatTotal_3 : decode cX3_floatTotal 3 = .ok (.istore_n 2, 1) := by decide +kernel
theorem dX3_floatTotal_4 : decode cX3_floatTotal 4 = .ok (.iload_n 2, 1) := by decide +kernel
theorem dX3_floatTotal_5 : decode cX3_floatTotal 5 = .ok (.aload_n 0, 1) := by decide +kernel
theorem dX3_floatTotal_6 : decode cX3_floatTotal 6 = .ok (.getfield 15, 3) := by decide +kernel
theorem dX3_floatTotal_9 : decode cX3_floatTotal 9 = .ok (.if_icmp .ge 20, 3) := by decide +kernel
theorem dX3_floatTotal_12 : decode cX3_floatTotal 12 = .ok (.fload_n 1, 1) := by decide +kernel
theorem dX3_floatTotal_13 : decode cX3_floatTotal 13 = .ok (.aload_n 0, 1) := by decide +kernel
theorem dX3_floatTotal_14 : decode cX3_floatTotal 14 = .ok (.iload_n 2, 1) := by decide +kernel
theorem dX3_floatTotal_15 : decode cX3_floatTotal 15 = .ok (.bipush 6, 2) := by decide +kernel
theorem dX3_floatTotal_17 : decode cX3_floatTotal 17 = .ok (.invokevirtual 66, 3) := by decide +kernel
theorem dX3_floatTotal_20 : decode cX3_floatTotal 20 = .ok (.d2f, 1) := by decide +kernel
theorem dX3_floatTotal_21 : decode cX3_floatTotal 21 = .ok (.fadd, 1) := by decide +kernel
theorem dX3_floatTotal_22 : decode cX3_floatTotal 22 = .ok (.fstore_n 1, 1) := by decide +kernel
theorem dX3_floatTotal_23 : decode cX3_floatTotal 23 = .ok (.iinc 2 1, 3) := by decide +kernel
theorem dX3_floatTotal_26 : decode cX3_floatTotal 26 = .ok (.goto (-22), 3) := by decide +kernel
theorem dX3_floatTotal_29 : decode cX3_floatTotal 29 = .ok (.fload_n 1, 1) := by decide +kernel
theorem dX3_floatTotal_30 : decode cX3_floatTotal 30 = .ok (.freturn, 1) := by decide +kernel
theorem dX3_doubleTotal_0 : decode cX3_doubleTotal 0 = .ok (.dconst 0, 1) := by decide +kernel
theorem dX3_doubleTotal_1 : decode cX3_doubleTotal 1 = .ok (.dstore_n 1, 1) := by decide +kernel
theorem dX3_doubleTotal_2 : decode cX3_doubleTotal 2 = .ok (.iconst 0, 1) := by decide +kernel
theorem dX3_doubleTotal_3 : decode cX3_doubleTotal 3 = .ok (.istore_n 3, 1) := by decide +kernel
theorem dX3_doubleTotal_4 : decode cX3_doubleTotal 4 = .ok (.iload_n 3, 1) := by decide +kernel
theorem dX3_doubleTotal_5 : decode cX3_doubleTotal 5 = .ok (.aload_n 0, 1) := by decide +kernel
theorem dX3_doubleTotal_6 : decode cX3_doubleTotal 6 = .ok (.getfield 15, 3) := by decide +kernel
theorem dX3_doubleTotal_9 : decode cX3_doubleTotal 9 = .ok (.if_icmp .ge 19, 3) := by decide +kernel
theorem dX3_doubleTotal_12 : decode cX3_doubleTotal 12 = .ok (.dload_n 1, 1) := by decide +kernel
theorem dX3_doubleTotal_13 : decode cX3_doubleTotal 13 = .ok (.aload_n 0, 1) := by decide +kernel
theorem dX3_doubleTotal_14 : decode cX3_doubleTotal 14 = .ok (.iload_n 3, 1) := by decide +kernel
theorem dX3_doubleTotal_15 : decode cX3_doubleTotal 15 = .ok (.bipush 7, 2) := by decide +kernel
theorem dX3_doubleTotal_17 : decode cX3_doubleTotal 17 = .ok (.invokevirtual 66, 3) := by decide +kernel
theorem dX3_doubleTotal_20 : decode cX3_doubleTotal 20 = .ok (.dadd, 1) := by decide +kernel
theorem dX3_doubleTotal_21 : decode cX3_doubleTotal 21 = .ok (.dstore_n 1, 1) := by decide +kernel
theorem dX3_doubleTotal_22 : decode cX3_doubleTotal 22 = .ok (.iinc 3 1, 3) := by decide +kernel
theorem dX3_doubleTotal_25 : decode cX3_doubleTotal 25 = .ok (.goto (-21), 3) := by decide +kernel
theorem dX3_doubleTotal_28 : decode cX3_doubleTotal 28 = .ok (.dload_n 1, 1) := by decide +kernel
theorem dX3_doubleTotal_29 : decode cX3_doubleTotal 29 = .ok (.dreturn, 1) := by decide +kernel
theorem dX3_setMean_0 : decode cX3_setMean 0 = .ok (.iload_n 2, 1) := by decide +kernel
theorem dX3_setMean_1 : decode cX3_setMean 1 = .ok (.bipush 6, 2) := by decide +kernel
theorem dX3_setMean_3 : decode cX3_setMean 3 = .ok (.if_icmp .ne 40, 3) := by decide +kernel
theorem dX3_setMean_6 : decode cX3_setMean 6 = .ok (.aload_n 3, 1) := by decide +kernel
theorem dX3_setMean_7 : decode cX3_setMean 7 = .ok (.iload 4, 2) := by decide +kernel
theorem dX3_setMean_9 : decode cX3_setMean 9 = .ok (.iload_n 2, 1) := by decide +kernel
theorem dX3_setMean_10 : decode cX3_setMean 10 = .ok (.invokevirtual 66, 3) := by decide +kernel
theorem dX3_setMean_13 : decode cX3_setMean 13 = .ok (.d2f, 1) := by decide +kernel
theorem dX3_setMean_14 : decode cX3_setMean 14 = .ok (.aload 5, 2) := by decide +kernel
theorem dX3_setMean_16 : decode cX3_setMean 16 = .ok (.iload 6, 2) := by decide +kernel
theorem dX3_setMean_18 : decode cX3_setMean 18 = .ok (.iload_n 2, 1) := by decide +kernel
theorem dX3_setMean_19 : decode cX3_setMean 19 = .ok (.invokevirtual 66, 3) := by decide +kernel
theorem dX3_setMean_22 : decode cX3_setMean 22 = .ok (.d2f, 1) := by decide +kernel
theorem dX3_setMean_23 : decode cX3_setMean 23 = .ok (.fadd, 1) := by decide +kernel
theorem dX3_setMean_24 : decode cX3_setMean 24 = .ok (.ldc 91, 2) := by decide +kernel
theorem dX3_setMean_26 : decode cX3_setMean 26 = .ok (.fmul, 1) := by decide +kernel
theorem dX3_setMean_27 : decode cX3_setMean 27 = .ok (.fconst 0, 1) := by decide +kernel
theorem dX3_setMean_28 : decode cX3_setMean 28 = .ok (.fadd, 1) := by decide +kernel
theorem dX3_setMean_29 : decode cX3_setMean 29 = .ok (.fstore 7, 2) := by decide +kernel
theorem dX3_setMean_31 : decode cX3_setMean 31 = .ok (.aload_n 0, 1) := by decide +kernel
theorem dX3_setMean_32 : decode cX3_setMean 32 = .ok (.iload_n 1, 1) := by decide +kernel
theorem dX3_setMean_33 : decode cX3_setMean 33 = .ok (.iload_n 2, 1) := by decide +kernel
theorem dX3_setMean_34 : decode cX3_setMean 34 = .ok (.fload 7, 2) := by decide +kernel
theorem dX3_setMean_36 : decode cX3_setMean 36 = .ok (.f2d, 1) := by decide +kernel
theorem dX3_setMean_37 : decode cX3_setMean 37 = .ok (.invokevirtual 38, 3) := by decide +kernel
theorem dX3_setMean_40 : decode cX3_setMean 40 = .ok (.goto 78, 3) := by decide +kernel
theorem dX3_setMean_43 : decode cX3_setMean 43 = .ok (.iload_n 2, 1) := by decide +kernel
theorem dX3_setMean_44 : decode cX3_setMean 44 = .ok (.bipush 7, 2) := by decide +kernel
theorem dX3_setMean_46 : decode cX3_setMean 46 = .ok (.if_icmp .ne 34, 3) := by decide +kernel
theorem dX3_setMean_49 : decode cX3_setMean 49 = .ok (.aload_n 0, 1) := by decide +kernel
theorem dX3_setMean_50 : decode cX3_setMean 50 = .ok (.iload_n 1, 1) := by decide +kernel
theorem dX3_setMean_51 : decode cX3_setMean 51 = .ok (.iload_n 2, 1) := by decide +kernel
theorem dX3_setMean_52 : decode cX3_setMean 52 = .ok (.aload_n 3, 1) := by decide +kernel
theorem dX3_setMean_53 : decode cX3_setMean 53 = .ok (.iload 4, 2) := by decide +kernel
theorem dX3_setMean_55 : decode cX3_setMean 55 = .ok (.iload_n 2, 1) := by decide +kernel
theorem dX3_setMean_56 : decode cX3_setMean 56 = .ok (.invokevirtual 66, 3) := by decide +kernel
theorem dX3_setMean_59 : decode cX3_setMean 59 = .ok (.aload 5, 2) := by decide +kernel
theorem dX3_setMean_61 : decode cX3_setMean 61 = .ok (.iload 6, 2) := by decide +kernel
theorem dX3_setMean_63 : decode cX3_setMean 63 = .ok (.iload_n 2, 1) := by decide +kernel
theorem dX3_setMean_64 : decode cX3_setMean 64 = .ok (.invokevirtual 66, 3) := by decide +kernel
theorem dX3_setMean_67 : decode cX3_setMean 67 = .ok (.dadd, 1) := by decide +kernel
theorem dX3_setMean_68 : decode cX3_setMean 68 = .ok (.ldc2_w 92, 3) := by decide +kernel
theorem dX3_setMean_71 : decode cX3_setMean 71 = .ok (.dmul, 1) := by decide +kernel
theorem dX3_setMean_72 : decode cX3_setMean 72 = .ok (.dconst 0, 1) := by decide +kernel
theorem dX3_setMean_73 : decode cX3_setMean 73 = .ok (.dadd, 1) := by decide +kernel
theorem dX3_setMean_74 : decode cX3_setMean 74 = .ok (.invokevirtual 38, 3) := by decide +kernel
theorem dX3_setMean_77 : decode cX3_setMean 77 = .ok (.goto 41, 3) := by decide +kernel
theorem dX3_setMean_80 : decode cX3_setMean 80 = .ok (.aload_n 3, 1) := by decide +kernel
theorem dX3_setMean_81 : decode cX3_setMean 81 = .ok (.getfield 22, 3) := by decide +kernel
theorem dX3_setMean_84 : decode cX3_setMean 84 = .ok (.iload 4, 2) := by decide +kernel
theorem dX3_setMean_86 : decode cX3_setMean 86 = .ok (.laload, 1) := by decide +kernel
theorem dX3_setMean_87 : decode cX3_setMean 87 = .ok (.lstore 7, 2) := by decide +kernel
theorem dX3_setMean_89 : decode cX3_setMean 89 = .ok (.aload 5, 2) := by decide +kernel
theorem dX3_setMean_91 : decode cX3_setMean 91 = .ok (.getfield 22, 3) := by decide +kernel
theorem dX3_setMean_94 : decode cX3_setMean 94 = .ok (.iload 6, 2) := by decide +kernel
theorem dX3_setMean_96 : decode cX3_setMean 96 = .ok (.laload, 1) := by decide +kernel
theorem dX3_setMean_97 : decode cX3_setMean 97 = .ok (.lstore 9, 2) := by decide +kernel
theorem dX3_setMean_99 : decode cX3_setMean 99 = .ok (.aload_n 0, 1) := by decide +kernel
theorem dX3_setMean_100 : decode cX3_setMean 100 = .ok (.iload_n 1, 1) := by decide +kernel
theorem dX3_setMean_101 : decode cX3_setMean 101 = .ok (.iload_n 2, 1) := by decide +kernel
theorem dX3_setMean_102 : decode cX3_setMean 102 = .ok (.lload 7, 2) := by decide +kernel
theorem dX3_setMean_104 : decode cX3_setMean 104 = .ok (.lload 9, 2) := by decide +kernel
theorem dX3_setMean_106 : decode cX3_setMean 106 = .ok (.land, 1) := by decide +kernel
theorem dX3_setMean_107 : decode cX3_setMean 107 = .ok (.lload 7, 2) := by decide +kernel
theorem dX3_setMean_109 : decode cX3_setMean 109 = .ok (.lload 9, 2) := by decide +kernel
theorem dX3_setMean_111 : decode cX3_setMean 111 = .ok (.lxor, 1) := by decide +kernel
theorem dX3_setMean_112 : decode cX3_setMean 112 = .ok (.iconst 1, 1) := by decide +kernel
theorem dX3_setMean_113 : decode cX3_setMean 113 = .ok (.lshr, 1) := by decide +kernel
theorem dX3_setMean_114 : decode cX3_setMean 114 = .ok (.ladd, 1) := by decide +kernel
theorem dX3_setMean_115 : decode cX3_setMean 115 = .ok (.invokevirtual 48, 3) := by decide +kernel
theorem dX3_setMean_118 : decode cX3_setMean 118 = .ok (.return_, 1) := by decide +kernel
theorem dX3_isDuplicate_0 : decode cX3_isDuplicate 0 = .ok (.iload_n 1, 1) := by decide +kernel
theorem dX3_isDuplicate_1 : decode cX3_isDuplicate 1 = .ok (.ifCond .le 20, 3) := by decide +kernel
theorem dX3_isDuplicate_4 : decode cX3_isDuplicate 4 = .ok (.aload_n 0, 1) := by decide +kernel
theorem dX3_isDuplicate_5 : decode cX3_isDuplicate 5 = .ok (.iload_n 1, 1) := by decide +kernel
theorem dX3_isDuplicate_6 : decode cX3_isDuplicate 6 = .ok (.aload_n 0, 1) := by decide +kernel
theorem dX3_isDuplicate_7 : decode cX3_isDuplicate 7 = .ok (.iload_n 1, 1) := by decide +kernel
theorem dX3_isDuplicate_8 : decode cX3_isDuplicate 8 = .ok (.iconst 1, 1) := by decide +kernel
theorem dX3_isDuplicate_9 : decode cX3_isDuplicate 9 = .ok (.isub, 1) := by decide +kernel
theorem dX3_isDuplicate_10 : decode cX3_isDuplicate 10 = .ok (.iconst 0, 1) := by decide +kernel
theorem dX3_isDuplicate_11 : decode cX3_isDuplicate 11 = .ok (.invokestatic 94, 3) := by decide +kernel
theorem dX3_isDuplicate_14 : decode cX3_isDuplicate 14 = .ok (.ifCond .ne 7, 3) := by decide +kernel
theorem dX3_isDuplicate_17 : decode cX3_isDuplicate 17 = .ok (.iconst 1, 1) := by decide +kernel
theorem dX3_isDuplicate_18 : decode cX3_isDuplicate 18 = .ok (.goto 4, 3) := by decide +kernel
theorem dX3_isDuplicate_21 : decode cX3_isDuplicate 21 = .ok (.iconst 0, 1) := by decide +kernel
theorem dX3_isDuplicate_22 : decode cX3_isDuplicate 22 = .ok (.ireturn, 1) := by decide +kernel
theorem dX3_nulls_0 : decode cX3_nulls 0 = .ok (.iconst 0, 1) := by decide +kernel
theorem dX3_nulls_1 : decode cX3_nulls 1 = .ok (.istore_n 1, 1) := by decide +kernel
theorem dX3_nulls_2 : decode cX3_nulls 2 = .ok (.iconst 0, 1) := by decide +kernel
theorem dX3_nulls_3 : decode cX3_nulls 3 = .ok (.istore_n 2, 1) := by decide +kernel
theorem dX3_nulls_4 : decode cX3_nulls 4 = .ok (.iload_n 2, 1) := by decide +kernel
theorem dX3_nulls_5 : decode cX3_nulls 5 = .ok (.aload_n 0, 1) := by decide +kernel
theorem dX3_nulls_6 : decode cX3_nulls 6 = .ok (.getfield 15, 3) := by decide +kernel
theorem dX3_nulls_9 : decode cX3_nulls 9 = .ok (.if_icmp .ge 23, 3) := by decide +kernel
theorem dX3_nulls_12 : decode cX3_nulls 12 = .ok (.aload_n 0, 1) := by decide +kernel
theorem dX3_nulls_13 : decode cX3_nulls 13 = .ok (.getfield 18, 3) := by decide +kernel
theorem dX3_nulls_16 : decode cX3_nulls 16 = .ok (.iload_n 2, 1) := by decide +kernel
theorem dX3_nulls_17 : decode cX3_nulls 17 = .ok (.iaload, 1) := by decide +kernel
theorem dX3_nulls_18 : decode cX3_nulls 18 = .ok (.bipush 9, 2) := by decide +kernel
theorem dX3_nulls_20 : decode cX3_nulls 20 = .ok (.if_icmp .ne 6, 3) := by decide +kernel
theorem dX3_nulls_23 : decode cX3_nulls 23 = .ok (.iinc 1 1, 3) := by decide +kernel
theorem dX3_nulls_26 : decode cX3_nulls 26 = .ok (.iinc 2 1, 3) := by decide +kernel
theorem dX3_nulls_29 : decode cX3_nulls 29 = .ok (.goto (-25), 3) := by decide +kernel
theorem dX3_nulls_32 : decode cX3_nulls 32 = .ok (.iload_n 1, 1) := by decide +kernel
theorem dX3_nulls_33 : decode cX3_nulls 33 = .ok (.ireturn, 1) := by decide +kernel
theorem dX4_init_0 : decode cX4_init 0 = .ok (.aload_n 0, 1) := by decide +kernel
theorem dX4_init_1 : decode cX4_init 1 = .ok (.invokespecial 3, 3) := by decide +kernel
theorem dX4_init_4 : decode cX4_init 4 = .ok (.aload_n 0, 1) := by decide +kernel
theorem dX4_init_5 : decode cX4_init 5 = .ok (.aload_n 1, 1) := by decide +kernel
theorem dX4_init_6 : decode cX4_init 6 = .ok (.putfield 9, 3) := by decide +kernel
theorem dX4_init_9 : decode cX4_init 9 = .ok (.aload_n 0, 1) := by decide +kernel
theorem dX4_init_10 : decode cX4_init 10 = .ok (.aload_n 2, 1) := by decide +kernel
theorem dX4_init_11 : decode cX4_init 11 = .ok (.putfield 15, 3) := by decide +kernel
theorem dX4_init_14 : decode cX4_init 14 = .ok (.aload_n 0, 1) := by decide +kernel
theorem dX4_init_15 : decode cX4_init 15 = .ok (.iload_n 3, 1) := by decide +kernel
theorem dX4_init_16 : decode cX4_init 16 = .ok (.putfield 18, 3) := by decide +kernel
theorem dX4_init_19 : decode cX4_init 19 = .ok (.aload_n 1, 1) := by decide +kernel
theorem dX4_init_20 : decode cX4_init 20 = .ok (.getfield 22, 3) := by decide +kernel
theorem dX4_init_23 : decode cX4_init 23 = .ok (.aload_n 2, 1) := by decide +kernel
theorem dX4_init_24 : decode cX4_init 24 = .ok (.getfield 22, 3) := by decide +kernel
theorem dX4_init_27 : decode cX4_init 27 = .ok (.iadd, 1) := by decide +kernel
theorem dX4_init_28 : decode cX4_init 28 = .ok (.istore 4, 2) := by decide +kernel
theorem dX4_init_30 : decode cX4_init 30 = .ok (.aload_n 0, 1) := by decide +kernel
theorem dX4_init_31 : decode cX4_init 31 = .ok (.iload 4, 2) := by decide +kernel
theorem dX4_init_33 : decode cX4_init 33 = .ok (.newarray .int, 2) := by decide +kernel
theorem dX4_init_35 : decode cX4_init 35 = .ok (.putfield 27, 3) := by decide +kernel
theorem dX4_init_38 : decode cX4_init 38 = .ok (.aload_n 0, 1) := by decide +kernel
theorem dX4_init_39 : decode cX4_init 39 = .ok (.iload 4, 2) := by decide +kernel
theorem dX4_init_41 : decode cX4_init 41 = .ok (.newarray .int, 2) := by decide +kernel
theorem dX4_init_43 : decode cX4_init 43 = .ok (.putfield 31, 3) := by decide +kernel
theorem dX4_init_46 : decode cX4_init 46 = .ok (.aload_n 0, 1) := by decide +kernel
theorem dX4_init_47 : decode cX4_init 47 = .ok (.iload 4, 2) := by decide +kernel
theorem dX4_init_49 : decode cX4_init 49 = .ok (.newarray .int, 2) := by decide +kernel
theorem dX4_init_51 : decode cX4_init 51 = .ok (.putfield 34, 3) := by decide +kernel
theorem dX4_init_54 : decode cX4_init 54 = .ok (.aload_n 0, 1) := by decide +kernel
theorem dX4_init_55 : decode cX4_init 55 = .ok (.iload 4, 2) := by decide +kernel
theorem dX4_init_57 : decode cX4_init 57 = .ok (.newarray .int, 2) := by decide +kernel
theorem dX4_init_59 : decode cX4_init 59 = .ok (.putfield 37, 3) := by decide +kernel
theorem dX4_init_62 : decode cX4_init 62 = .ok (.aload_n 0, 1) := by decide +kernel
theorem dX4_init_63 : decode cX4_init 63 = .ok (.iload 4, 2) := by decide +kernel
theorem dX4_init_65 : decode cX4_init 65 = .ok (.newarray .int, 2) := by decide +kernel
theorem dX4_init_67 : decode cX4_init 67 = .ok (.putfield 40, 3) := by decide +kernel
theorem dX4_init_70 : decode cX4_init 70 = .ok (.return_, 1) := by decide +kernel
theorem dX4_add_0 : decode cX4_add 0 = .ok (.aload_n 0, 1) := by decide +kernel
theorem dX4_add_1 : decode cX4_add 1 = .ok (.getfield 27, 3) := by decide +kernel
theorem dX4_add_4 : decode cX4_add 4 = .ok (.aload_n 0, 1) := by decide +kernel
theorem dX4_add_5 : decode cX4_add 5 = .ok (.getfield 43, 3) := by decide +kernel
theorem dX4_add_8 : decode cX4_add 8 = .ok (.iload_n 1, 1) := by decide +kernel
theorem dX4_add_9 : decode cX4_add 9 = .ok (.iastore, 1) := by decide +kernel
theorem dX4_add_10 : decode cX4_add 10 = .ok (.aload_n 0, 1) := by decide +kernel
theorem dX4_add_11 : decode cX4_add 11 = .ok (.getfield 31, 3) := by decide +kernel
theorem dX4_add_14 : decode cX4_add 14 = .ok (.aload_n 0, 1) := by decide +kernel
theorem dX4_add_15 : decode cX4_add 15 = .ok (.getfield 43, 3) := by decide +kernel
theorem dX4_add_18 : decode cX4_add 18 = .ok (.iload_n 2, 1) := by decide +kernel
theorem dX4_add_19 : decode cX4_add 19 = .ok (.iastore, 1) := by decide +kernel
theorem dX4_add_20 : decode cX4_add 20 = .ok (.aload_n 0, 1) := by decide +kernel
theorem dX4_add_21 : decode cX4_add 21 = .ok (.getfield 34, 3) := by decide +kernel
theorem dX4_add_24 : decode cX4_add 24 = .ok (.aload_n 0, 1) := by decide +kernel
theorem dX4_add_25 : decode cX4_add 25 = .ok (.getfield 43, 3) := by decide +kernel
theorem dX4_add_28 : decode cX4_add 28 = .ok (.iload_n 3, 1) := by decide +kernel
theorem dX4_add_29 : decode cX4_add 29 = .ok (.iastore, 1) := by decide +kernel
theorem dX4_add_30 : decode cX4_add 30 = .ok (.aload_n 0, 1) := by decide +kernel
theorem dX4_add_31 : decode cX4_add 31 = .ok (.getfield 37, 3) := by decide +kernel
theorem dX4_add_34 : decode cX4_add 34 = .ok (.aload_n 0, 1) := by decide +kernel
theorem dX4_add_35 : decode cX4_add 35 = .ok (.getfield 43, 3) := by decide +kernel
theorem dX4_add_38 : decode cX4_add 38 = .ok (.iload 4, 2) := by decide +kernel
theorem dX4_add_40 : decode cX4_add 40 = .ok (.iastore, 1) := by decide +kernel
theorem dX4_add_41 : decode cX4_add 41 = .ok (.aload_n 0, 1) := by decide +kernel
theorem dX4_add_42 : decode cX4_add 42 = .ok (.getfield 40, 3) := by decide +kernel
theorem dX4_add_45 : decode cX4_add 45 = .ok (.aload_n 0, 1) := by decide +kernel
theorem dX4_add_46 : decode cX4_add 46 = .ok (.getfield 43, 3) := by decide +kernel
theorem dX4_add_49 : decode cX4_add 49 = .ok (.iload 5, 2) := by decide +kernel
theorem dX4_add_51 : decode cX4_add 51 = .ok (.iastore, 1) := by decide +kernel
theorem dX4_add_52 : decode cX4_add 52 = .ok (.aload_n 0, 1) := by decide +kernel
theorem dX4_add_53 : decode cX4_add 53 = .ok (.dup, 1) := by decide +kernel
theorem dX4_add_54 : decode cX4_add 54 = .ok (.getfield 43, 3) := by decide +kernel
theorem dX4_add_57 : decode cX4_add 57 = .ok (.iconst 1, 1) := by decide +kernel
theorem dX4_add_58 : decode cX4_add 58 = .ok (.iadd, 1) := by decide +kernel
theorem dX4_add_59 : decode cX4_add 59 = .ok (.putfield 43, 3) := by decide +kernel
theorem dX4_add_62 : decode cX4_add 62 = .ok (.return_, 1) := by decide +kernel
theorem dX4_hasLeft_0 : decode cX4_hasLeft 0 = .ok (.aload_n 0, 1) := by decide +kernel
theorem dX4_hasLeft_1 : decode cX4_hasLeft 1 = .ok (.getfield 27, 3) := by decide +kernel
theorem dX4_hasLeft_4 : decode cX4_hasLeft 4 = .ok (.iload_n 1, 1) := by decide +kernel
theorem dX4_hasLeft_5 : decode cX4_hasLeft 5 = .ok (.iaload, 1) := by decide +kernel
theorem dX4_hasLeft_6 : decode cX4_hasLeft 6 = .ok (.iconst 2, 1) := by decide +kernel
theorem dX4_hasLeft_7 : decode cX4_hasLeft 7 = .ok (.if_icmp .eq 7, 3) := by decide +kernel
theorem dX4_hasLeft_10 : decode cX4_hasLeft 10 = .ok (.iconst 1, 1) := by decide +kernel
theorem dX4_hasLeft_11 : decode cX4_hasLeft 11 = .ok (.goto 4, 3) := by decide +kernel
theorem dX4_hasLeft_14 : decode cX4_hasLeft 14 = .ok (.iconst 0, 1) := by decide +kernel
theorem dX4_hasLeft_15 : decode cX4_hasLeft 15 = .ok (.ireturn, 1) := by decide +kernel
theorem dX4_hasRight_0 : decode cX4_hasRight 0 = .ok (.aload_n 0, 1) := by decide +kernel
theorem dX4_hasRight_1 : decode cX4_hasRight 1 = .ok (.getfield 27, 3) := by decide +kernel
theorem dX4_hasRight_4 : decode cX4_hasRight 4 = .ok (.iload_n 1, 1) := by decide +kernel
theorem dX4_hasRight_5 : decode cX4_hasRight 5 = .ok (.iaload, 1) := by decide +kernel
theorem dX4_hasRight_6 : decode cX4_hasRight 6 = .ok (.iconst 1, 1) := by decide +kernel
theorem dX4_hasRight_7 : decode cX4_hasRight 7 = .ok (.if_icmp .eq 7, 3) := by decide +kernel
theorem dX4_hasRight_10 : decode cX4_hasRight 10 = .ok (.iconst 1, 1) := by decide +kernel
theorem dX4_hasRight_11 : decode cX4_hasRight 11 = .ok (.goto 4, 3) := by decide +kernel
theorem dX4_hasRight_14 : decode cX4_hasRight 14 = .ok (.iconst 0, 1) := by decide +kernel
theorem dX4_hasRight_15 : decode cX4_hasRight 15 = .ok (.ireturn, 1) := by decide +kernel
theorem dX4_stepsOf_0 : decode cX4_stepsOf 0 = .ok (.iconst 0, 1) := by decide +kernel
theorem dX4_stepsOf_1 : decode cX4_stepsOf 1 = .ok (.istore_n 2, 1) := by decide +kernel
theorem dX4_stepsOf_2 : decode cX4_stepsOf 2 = .ok (.iconst 0, 1) := by decide +kernel
theorem dX4_stepsOf_3 : decode cX4_stepsOf 3 = .ok (.istore_n 3, 1) := by decide +kernel
theorem dX4_stepsOf_4 : decode cX4_stepsOf 4 = .ok (.iload_n 3, 1) := by decide +kernel
theorem dX4_stepsOf_5 : decode cX4_stepsOf 5 = .ok (.aload_n 0, 1) := by decide +kernel
theorem dX4_stepsOf_6 : decode cX4_stepsOf 6 = .ok (.getfield 43, 3) := by decide +kernel
theorem dX4_stepsOf_9 : decode cX4_stepsOf 9 = .ok (.if_icmp .ge 22, 3) := by decide +kernel
theorem dX4_stepsOf_12 : decode cX4_stepsOf 12 = .ok (.aload_n 0, 1) := by decide +kernel
theorem dX4_stepsOf_13 : decode cX4_stepsOf 13 = .ok (.getfield 27, 3) := by decide +kernel
theorem dX4_stepsOf_16 : decode cX4_stepsOf 16 = .ok (.iload_n 3, 1) := by decide +kernel
theorem dX4_stepsOf_17 : decode cX4_stepsOf 17 = .ok (.iaload, 1) := by decide +kernel
theorem dX4_stepsOf_18 : decode cX4_stepsOf 18 = .ok (.iload_n 1, 1) := by decide +kernel
theorem dX4_stepsOf_19 : decode cX4_stepsOf 19 = .ok (.if_icmp .ne 6, 3) := by decide +kernel
theorem dX4_stepsOf_22 : decode cX4_stepsOf 22 = .ok (.iinc 2 1, 3) := by decide +kernel
theorem dX4_stepsOf_25 : decode cX4_stepsOf 25 = .ok (.iinc 3 1, 3) := by decide +kernel
theorem dX4_stepsOf_28 : decode cX4_stepsOf 28 = .ok (.goto (-24), 3) := by decide +kernel
theorem dX4_stepsOf_31 : decode cX4_stepsOf 31 = .ok (.iload_n 2, 1) := by decide +kernel
theorem dX4_stepsOf_32 : decode cX4_stepsOf 32 = .ok (.ireturn, 1) := by decide +kernel
theorem dX4_verdictsOf_0 : decode cX4_verdictsOf 0 = .ok (.iconst 0, 1) := by decide +kernel
theorem dX4_verdictsOf_1 : decode cX4_verdictsOf 1 = .ok (.istore_n 2, 1) := by decide +kernel
theorem dX4_verdictsOf_2 : decode cX4_verdictsOf 2 = .ok (.iconst 0, 1) := by decide +kernel
theorem dX4_verdictsOf_3 : decode cX4_verdictsOf 3 = .ok (.istore_n 3, 1) := by decide +kernel
theorem dX4_verdictsOf_4 : decode cX4_verdictsOf 4 = .ok (.iload_n 3, 1) := by decide +kernel
theorem dX4_verdictsOf_5 : decode cX4_verdictsOf 5 = .ok (.aload_n 0, 1) := by decide +kernel
theorem dX4_verdictsOf_6 : decode cX4_verdictsOf 6 = .ok (.getfield 43, 3) := by decide +kernel
theorem dX4_verdictsOf_9 : decode cX4_verdictsOf 9 = .ok (.if_icmp .ge 22, 3) := by decide +kernel
theorem dX4_verdictsOf_12 : decode cX4_verdictsOf 12 = .ok (.aload_n 0, 1) := by decide +kernel
theorem dX4_verdictsOf_13 : decode cX4_verdictsOf 13 = .ok (.getfield 37, 3) := by decide +kernel
theorem dX4_verdictsOf_16 : decode cX4_verdictsOf 16 = .ok (.iload_n 3, 1) := by decide +kernel
theorem dX4_verdictsOf_17 : decode cX4_verdictsOf 17 = .ok (.iaload, 1) := by decide +kernel
theorem dX4_verdictsOf_18 : decode cX4_verdictsOf 18 = .ok (.iload_n 1, 1) := by decide +kernel
theorem dX4_verdictsOf_19 : decode cX4_verdictsOf 19 = .ok (.if_icmp .ne 6, 3) := by decide +kernel
theorem dX4_verdictsOf_22 : decode cX4_verdictsOf 22 = .ok (.iinc 2 1, 3) := by decide +kernel
theorem dX4_verdictsOf_25 : decode cX4_verdictsOf 25 = .ok (.iinc 3 1, 3) := by decide +kernel
theorem dX4_verdictsOf_28 : decode cX4_verdictsOf 28 = .ok (.goto (-24), 3) := by decide +kernel
theorem dX4_verdictsOf_31 : decode cX4_verdictsOf 31 = .ok (.iload_n 2, 1) := by decide +kernel
theorem dX4_verdictsOf_32 : decode cX4_verdictsOf 32 = .ok (.ireturn, 1) := by decide +kernel
theorem dX4_mergedKind_0 : decode cX4_mergedKind 0 = .ok (.aload_n 0, 1) := by decide +kernel
theorem dX4_mergedKind_1 : decode cX4_mergedKind 1 = .ok (.getfield 9, 3) := by decide +kernel
theorem dX4_mergedKind_4 : decode cX4_mergedKind 4 = .ok (.getfield 46, 3) := by decide +kernel
theorem dX4_mergedKind_7 : decode cX4_mergedKind 7 = .ok (.bipush 7, 2) := by decide +kernel
theorem dX4_mergedKind_9 : decode cX4_mergedKind 9 = .ok (.if_icmp .gt 15, 3) := by decide +kernel
theorem dX4_mergedKind_12 : decode cX4_mergedKind 12 = .ok (.aload_n 0, 1) := by decide +kernel
theorem dX4_mergedKind_13 : decode cX4_mergedKind 13 = .ok (.getfield 15, 3) := by decide +kernel
theorem dX4_mergedKind_16 : decode cX4_mergedKind 16 = .ok (.getfield 46, 3) := by decide +kernel
theorem dX4_mergedKind_19 : decode cX4_mergedKind 19 = .ok (.bipush 7, 2) := by decide +kernel
theorem dX4_mergedKind_21 : decode cX4_mergedKind 21 = .ok (.if_icmp .le 33, 3) := by decide +kernel
theorem dX4_mergedKind_24 : decode cX4_mergedKind 24 = .ok (.aload_n 0, 1) := by decide +kernel
theorem dX4_mergedKind_25 : decode cX4_mergedKind 25 = .ok (.getfield 9, 3) := by decide +kernel
theorem dX4_mergedKind_28 : decode cX4_mergedKind 28 = .ok (.getfield 46, 3) := by decide +kernel
theorem dX4_mergedKind_31 : decode cX4_mergedKind 31 = .ok (.aload_n 0, 1) := by decide +kernel
theorem dX4_mergedKind_32 : decode cX4_mergedKind 32 = .ok (.getfield 15, 3) := by decide +kernel
theorem dX4_mergedKind_35 : decode cX4_mergedKind 35 = .ok (.getfield 46, 3) := by decide +kernel
theorem dX4_mergedKind_38 : decode cX4_mergedKind 38 = .ok (.if_icmp .ne 13, 3) := by decide +kernel
theorem dX4_mergedKind_41 : decode cX4_mergedKind 41 = .ok (.aload_n 0, 1) := by decide +kernel
theorem dX4_mergedKind_42 : decode cX4_mergedKind 42 = .ok (.getfield 9, 3) := by decide +kernel
theorem dX4_mergedKind_45 : decode cX4_mergedKind 45 = .ok (.getfield 46, 3) := by decide +kernel
theorem dX4_mergedKind_48 : decode cX4_mergedKind 48 = .ok (.goto 5, 3) := by decide +kernel
theorem dX4_mergedKind_51 : decode cX4_mergedKind 51 = .ok (.bipush 9, 2) := by decide +kernel
theorem dX4_mergedKind_53 : decode cX4_mergedKind 53 = .ok (.ireturn, 1) := by decide +kernel
theorem dX4_mergedKind_54 : decode cX4_mergedKind 54 = .ok (.aload_n 0, 1) := by decide +kernel
theorem dX4_mergedKind_55 : decode cX4_mergedKind 55 = .ok (.getfield 9, 3) := by decide +kernel
theorem dX4_mergedKind_58 : decode cX4_mergedKind 58 = .ok (.getfield 46, 3) := by decide +kernel
theorem dX4_mergedKind_61 : decode cX4_mergedKind 61 = .ok (.aload_n 0, 1) := by decide +kernel
theorem dX4_mergedKind_62 : decode cX4_mergedKind 62 = .ok (.getfield 15, 3) := by decide +kernel
theorem dX4_mergedKind_65 : decode cX4_mergedKind 65 = .ok (.getfield 46, 3) := by decide +kernel
theorem dX4_mergedKind_68 : decode cX4_mergedKind 68 = .ok (.invokestatic 49, 3) := by decide +kernel
theorem dX4_mergedKind_71 : decode cX4_mergedKind 71 = .ok (.istore_n 1, 1) := by decide +kernel
theorem dX4_mergedKind_72 : decode cX4_mergedKind 72 = .ok (.iload_n 1, 1) := by decide +kernel
theorem dX4_mergedKind_73 : decode cX4_mergedKind 73 = .ok (.iconst (-1), 1) := by decide +kernel
theorem dX4_mergedKind_74 : decode cX4_mergedKind 74 = .ok (.if_icmp .ne 8, 3) := by decide +kernel
theorem dX4_mergedKind_77 : decode cX4_mergedKind 77 = .ok (.bipush 9, 2) := by decide +kernel
theorem dX4_mergedKind_79 : decode cX4_mergedKind 79 = .ok (.goto 4, 3) := by decide +kernel
theorem dX4_mergedKind_82 : decode cX4_mergedKind 82 = .ok (.iload_n 1, 1) := by decide +kernel
theorem dX4_mergedKind_83 : decode cX4_mergedKind 83 = .ok (.ireturn, 1) := by decide +kernel
theorem dX4_mergedLength_0 : decode cX4_mergedLength 0 = .ok (.aload_n 0, 1) := by decide +kernel
theorem dX4_mergedLength_1 : decode cX4_mergedLength 1 = .ok (.getfield 43, 3) := by decide +kernel
theorem dX4_mergedLength_4 : decode cX4_mergedLength 4 = .ok (.aload_n 0, 1) := by decide +kernel
theorem dX4_mergedLength_5 : decode cX4_mergedLength 5 = .ok (.iconst 4, 1) := by decide +kernel
theorem dX4_mergedLength_6 : decode cX4_mergedLength 6 = .ok (.invokevirtual 55, 3) := by decide +kernel
theorem dX4_mergedLength_9 : decode cX4_mergedLength 9 = .ok (.isub, 1) := by decide +kernel
theorem dX4_mergedLength_10 : decode cX4_mergedLength 10 = .ok (.ireturn, 1) := by decide +kernel
theorem dX4_merged_0 : decode cX4_merged 0 = .ok (.new 23, 3) := by decide +kernel
theorem dX4_merged_3 : decode cX4_merged 3 = .ok (.dup, 1) := by decide +kernel
theorem dX4_merged_4 : decode cX4_merged 4 = .ok (.aload_n 0, 1) := by decide +kernel
theorem dX4_merged_5 : decode cX4_merged 5 = .ok (.invokevirtual 59, 3) := by decide +kernel
theorem dX4_merged_8 : decode cX4_merged 8 = .ok (.aload_n 0, 1) := by decide +kernel
theorem dX4_merged_9 : decode cX4_merged 9 = .ok (.invokevirtual 63, 3) := by decide +kernel
theorem dX4_merged_12 : decode cX4_merged 12 = .ok (.invokespecial 66, 3) := by decide +kernel
theorem dX4_merged_15 : decode cX4_merged 15 = .ok (.astore_n 2, 1) := by decide +kernel
theorem dX4_merged_16 : decode cX4_merged 16 = .ok (.iconst 0, 1) := by decide +kernel
theorem dX4_merged_17 : decode cX4_merged 17 = .ok (.istore_n 3, 1) := by decide +kernel
theorem dX4_merged_18 : decode cX4_merged 18 = .ok (.iconst 0, 1) := by decide +kernel
theorem dX4_merged_19 : decode cX4_merged 19 = .ok (.istore 4, 2) := by decide +kernel
theorem dX4_merged_21 : decode cX4_merged 21 = .ok (.iload 4, 2) := by decide +kernel
theorem dX4_merged_23 : decode cX4_merged 23 = .ok (.aload_n 0, 1) := by decide +kernel
theorem dX4_merged_24 : decode cX4_merged 24 = .ok (.getfield 43, 3) := by decide +kernel
theorem dX4_merged_27 : decode cX4_merged 27 = .ok (.if_icmp .ge 131, 3) := by decide +kernel
theorem dX4_merged_30 : decode cX4_merged 30 = .ok (.iload_n 3, 1) := by decide +kernel
theorem dX4_merged_31 : decode cX4_merged 31 = .ok (.aload_n 2, 1) := by decide +kernel
theorem dX4_merged_32 : decode cX4_merged 32 = .ok (.getfield 22, 3) := by decide +kernel
theorem dX4_merged_35 : decode cX4_merged 35 = .ok (.if_icmp .ge 123, 3) := by decide +kernel
theorem dX4_merged_38 : decode cX4_merged 38 = .ok (.aload_n 0, 1) := by decide +kernel
theorem dX4_merged_39 : decode cX4_merged 39 = .ok (.getfield 37, 3) := by decide +kernel
theorem dX4_merged_42 : decode cX4_merged 42 = .ok (.iload 4, 2) := by decide +kernel
theorem dX4_merged_44 : decode cX4_merged 44 = .ok (.iaload, 1) := by decide +kernel
theorem dX4_merged_45 : decode cX4_merged 45 = .ok (.iconst 4, 1) := by decide +kernel
theorem dX4_merged_46 : decode cX4_merged 46 = .ok (.if_icmp .ne 6, 3) := by decide +kernel
theorem dX4_merged_49 : decode cX4_merged 49 = .ok (.goto 103, 3) := by decide +kernel
theorem dX4_merged_52 : decode cX4_merged 52 = .ok (.aload_n 0, 1) := by decide +kernel
theorem dX4_merged_53 : decode cX4_merged 53 = .ok (.getfield 27, 3) := by decide +kernel
theorem dX4_merged_56 : decode cX4_merged 56 = .ok (.iload 4, 2) := by decide +kernel
theorem dX4_merged_58 : decode cX4_merged 58 = .ok (.iaload, 1) := by decide +kernel
theorem dX4_merged_59 : decode cX4_merged 59 = .ok (.ifCond .ne 31, 3) := by decide +kernel
theorem dX4_merged_62 : decode cX4_merged 62 = .ok (.iload_n 1, 1) := by decide +kernel
theorem dX4_merged_63 : decode cX4_merged 63 = .ok (.iconst 2, 1) := by decide +kernel
theorem dX4_merged_64 : decode cX4_merged 64 = .ok (.if_icmp .ne 26, 3) := by decide +kernel
theorem dX4_merged_67 : decode cX4_merged 67 = .ok (.aload_n 0, 1) := by decide +kernel
theorem dX4_merged_68 : decode cX4_merged 68 = .ok (.aload_n 2, 1) := by decide +kernel
theorem dX4_merged_69 : decode cX4_merged 69 = .ok (.iload_n 3, 1) := by decide +kernel
theorem dX4_merged_70 : decode cX4_merged 70 = .ok (.aload_n 0, 1) := by decide +kernel
theorem dX4_merged_71 : decode cX4_merged 71 = .ok (.getfield 31, 3) := by decide +kernel
theorem dX4_merged_74 : decode cX4_merged 74 = .ok (.iload 4, 2) := by decide +kernel
theorem dX4_merged_76 : decode cX4_merged 76 = .ok (.iaload, 1) := by decide +kernel
theorem dX4_merged_77 : decode cX4_merged 77 = .ok (.aload_n 0, 1) := by decide +kernel
theorem dX4_merged_78 : decode cX4_merged 78 = .ok (.getfield 34, 3) := by decide +kernel
theorem dX4_merged_81 : decode cX4_merged 81 = .ok (.iload 4, 2) := by decide +kernel
theorem dX4_merged_83 : decode cX4_merged 83 = .ok (.iaload, 1) := by decide +kernel
theorem dX4_merged_84 : decode cX4_merged 84 = .ok (.invokevirtual 69, 3) := by decide +kernel
theorem dX4_merged_87 : decode cX4_merged 87 = .ok (.goto 62, 3) := by decide +kernel
theorem dX4_merged_90 : decode cX4_merged 90 = .ok (.aload_n 0, 1) := by decide +kernel
theorem dX4_merged_91 : decode cX4_merged 91 = .ok (.iload 4, 2) := by decide +kernel
theorem dX4_merged_93 : decode cX4_merged 93 = .ok (.invokevirtual 73, 3) := by decide +kernel
theorem dX4_merged_96 : decode cX4_merged 96 = .ok (.ifCond .eq 18, 3) := by decide +kernel
theorem dX4_merged_99 : decode cX4_merged 99 = .ok (.aload_n 0, 1) := by decide +kernel
theorem dX4_merged_100 : decode cX4_merged 100 = .ok (.getfield 27, 3) := by decide +kernel
theorem dX4_merged_103 : decode cX4_merged 103 = .ok (.iload 4, 2) := by decide +kernel
theorem dX4_merged_105 : decode cX4_merged 105 = .ok (.iaload, 1) := by decide +kernel
theorem dX4_merged_106 : decode cX4_merged 106 = .ok (.ifCond .ne 27, 3) := by decide +kernel
theorem dX4_merged_109 : decode cX4_merged 109 = .ok (.iload_n 1, 1) := by decide +kernel
theorem dX4_merged_110 : decode cX4_merged 110 = .ok (.iconst 1, 1) := by decide +kernel
theorem dX4_merged_111 : decode cX4_merged 111 = .ok (.if_icmp .ne 22, 3) := by decide +kernel
theorem dX4_merged_114 : decode cX4_merged 114 = .ok (.aload_n 2, 1) := by decide +kernel
theorem dX4_merged_115 : decode cX4_merged 115 = .ok (.iload_n 3, 1) := by decide +kernel
theorem dX4_merged_116 : decode cX4_merged 116 = .ok (.aload_n 0, 1) := by decide +kernel
theorem dX4_merged_117 : decode cX4_merged 117 = .ok (.getfield 15, 3) := by decide +kernel
theorem dX4_merged_120 : decode cX4_merged 120 = .ok (.aload_n 0, 1) := by decide +kernel
theorem dX4_merged_121 : decode cX4_merged 121 = .ok (.getfield 34, 3) := by decide +kernel
theorem dX4_merged_124 : decode cX4_merged 124 = .ok (.iload 4, 2) := by decide +kernel
theorem dX4_merged_126 : decode cX4_merged 126 = .ok (.iaload, 1) := by decide +kernel
theorem dX4_merged_127 : decode cX4_merged 127 = .ok (.invokevirtual 77, 3) := by decide +kernel
theorem dX4_merged_130 : decode cX4_merged 130 = .ok (.goto 19, 3) := by decide +kernel
theorem dX4_merged_133 : decode cX4_merged 133 = .ok (.aload_n 2, 1) := by decide +kernel
theorem dX4_merged_134 : decode cX4_merged 134 = .ok (.iload_n 3, 1) := by decide +kernel
theorem dX4_merged_135 : decode cX4_merged 135 = .ok (.aload_n 0, 1) := by decide +kernel
theorem dX4_merged_136 : decode cX4_merged 136 = .ok (.getfield 9, 3) := by decide +kernel
theorem dX4_merged_139 : decode cX4_merged 139 = .ok (.aload_n 0, 1) := by decide +kernel
theorem dX4_merged_140 : decode cX4_merged 140 = .ok (.getfield 31, 3) := by decide +kernel
theorem dX4_merged_143 : decode cX4_merged 143 = .ok (.iload 4, 2) := by decide +kernel
theorem dX4_merged_145 : decode cX4_merged 145 = .ok (.iaload, 1) := by decide +kernel
theorem dX4_merged_146 : decode cX4_merged 146 = .ok (.invokevirtual 77, 3) := by decide +kernel
theorem dX4_merged_149 : decode cX4_merged 149 = .ok (.iinc 3 1, 3) := by decide +kernel
theorem dX4_merged_152 : decode cX4_merged 152 = .ok (.iinc 4 1, 3) := by decide +kernel
theorem dX4_merged_155 : decode cX4_merged 155 = .ok (.goto (-134), 3) := by decide +kernel
theorem dX4_merged_158 : decode cX4_merged 158 = .ok (.aload_n 2, 1) := by decide +kernel
theorem dX4_merged_159 : decode cX4_merged 159 = .ok (.areturn, 1) := by decide +kernel
theorem dX4_mergeMean_0 : decode cX4_mergeMean 0 = .ok (.aload_n 0, 1) := by decide +kernel
theorem dX4_mergeMean_1 : decode cX4_mergeMean 1 = .ok (.getfield 9, 3) := by decide +kernel
theorem dX4_mergeMean_4 : decode cX4_mergeMean 4 = .ok (.getfield 81, 3) := by decide +kernel
theorem dX4_mergeMean_7 : decode cX4_mergeMean 7 = .ok (.iload_n 3, 1) := by decide +kernel
theorem dX4_mergeMean_8 : decode cX4_mergeMean 8 = .ok (.iaload, 1) := by decide +kernel
theorem dX4_mergeMean_9 : decode cX4_mergeMean 9 = .ok (.bipush 7, 2) := by decide +kernel
theorem dX4_mergeMean_11 : decode cX4_mergeMean 11 = .ok (.if_icmp .gt 22, 3) := by decide +kernel
theorem dX4_mergeMean_14 : decode cX4_mergeMean 14 = .ok (.aload_n 0, 1) := by decide +kernel
theorem dX4_mergeMean_15 : decode cX4_mergeMean 15 = .ok (.getfield 15, 3) := by decide +kernel
theorem dX4_mergeMean_18 : decode cX4_mergeMean 18 = .ok (.getfield 81, 3) := by decide +kernel
theorem dX4_mergeMean_21 : decode cX4_mergeMean 21 = .ok (.iload 4, 2) := by decide +kernel
theorem dX4_mergeMean_23 : decode cX4_mergeMean 23 = .ok (.iaload, 1) := by decide +kernel
theorem dX4_mergeMean_24 : decode cX4_mergeMean 24 = .ok (.bipush 7, 2) := by decide +kernel
theorem dX4_mergeMean_26 : decode cX4_mergeMean 26 = .ok (.if_icmp .gt 7, 3) := by decide +kernel
theorem dX4_mergeMean_29 : decode cX4_mergeMean 29 = .ok (.iconst 1, 1) := by decide +kernel
theorem dX4_mergeMean_30 : decode cX4_mergeMean 30 = .ok (.goto 4, 3) := by decide +kernel
theorem dX4_mergeMean_33 : decode cX4_mergeMean 33 = .ok (.iconst 0, 1) := by decide +kernel
theorem dX4_mergeMean_34 : decode cX4_mergeMean 34 = .ok (.istore 5, 2) := by decide +kernel
theorem dX4_mergeMean_36 : decode cX4_mergeMean 36 = .ok (.iload 5, 2) := by decide +kernel
theorem dX4_mergeMean_38 : decode cX4_mergeMean 38 = .ok (.ifCond .eq 28, 3) := by decide +kernel
theorem dX4_mergeMean_41 : decode cX4_mergeMean 41 = .ok (.aload_n 0, 1) := by decide +kernel
theorem dX4_mergeMean_42 : decode cX4_mergeMean 42 = .ok (.getfield 9, 3) := by decide +kernel
theorem dX4_mergeMean_45 : decode cX4_mergeMean 45 = .ok (.getfield 81, 3) := by decide +kernel
theorem dX4_mergeMean_48 : decode cX4_mergeMean 48 = .ok (.iload_n 3, 1) := by decide +kernel
theorem dX4_mergeMean_49 : decode cX4_mergeMean 49 = .ok (.iaload, 1) := by decide +kernel
theorem dX4_mergeMean_50 : decode cX4_mergeMean 50 = .ok (.aload_n 0, 1) := by decide +kernel
theorem dX4_mergeMean_51 : decode cX4_mergeMean 51 = .ok (.getfield 15, 3) := by decide +kernel
theorem dX4_mergeMean_54 : decode cX4_mergeMean 54 = .ok (.getfield 81, 3) := by decide +kernel
theorem dX4_mergeMean_57 : decode cX4_mergeMean 57 = .ok (.iload 4, 2) := by decide +kernel
theorem dX4_mergeMean_59 : decode cX4_mergeMean 59 = .ok (.iaload, 1) := by decide +kernel
theorem dX4_mergeMean_60 : decode cX4_mergeMean 60 = .ok (.invokestatic 49, 3) := by decide +kernel
theorem dX4_mergeMean_63 : decode cX4_mergeMean 63 = .ok (.goto 4, 3) := by decide +kernel
theorem dX4_mergeMean_66 : decode cX4_mergeMean 66 = .ok (.iconst (-1), 1) := by decide +kernel
theorem dX4_mergeMean_67 : decode cX4_mergeMean 67 = .ok (.istore 6, 2) := by decide +kernel
theorem dX4_mergeMean_69 : decode cX4_mergeMean 69 = .ok (.iload 6, 2) := by decide +kernel
theorem dX4_mergeMean_71 : decode cX4_mergeMean 71 = .ok (.iconst (-1), 1) := by decide +kernel
theorem dX4_mergeMean_72 : decode cX4_mergeMean 72 = .ok (.if_icmp .ne 16, 3) := by decide +kernel
theorem dX4_mergeMean_75 : decode cX4_mergeMean 75 = .ok (.aload_n 1, 1) := by decide +kernel
theorem dX4_mergeMean_76 : decode cX4_mergeMean 76 = .ok (.iload_n 2, 1) := by decide +kernel
theorem dX4_mergeMean_77 : decode cX4_mergeMean 77 = .ok (.aload_n 0, 1) := by decide +kernel
theorem dX4_mergeMean_78 : decode cX4_mergeMean 78 = .ok (.getfield 9, 3) := by decide +kernel
theorem dX4_mergeMean_81 : decode cX4_mergeMean 81 = .ok (.iload_n 3, 1) := by decide +kernel
theorem dX4_mergeMean_82 : decode cX4_mergeMean 82 = .ok (.invokevirtual 77, 3) := by decide +kernel
theorem dX4_mergeMean_85 : decode cX4_mergeMean 85 = .ok (.goto 21, 3) := by decide +kernel
theorem dX4_mergeMean_88 : decode cX4_mergeMean 88 = .ok (.aload_n 1, 1) := by decide +kernel
theorem dX4_mergeMean_89 : decode cX4_mergeMean 89 = .ok (.iload_n 2, 1) := by decide +kernel
theorem dX4_mergeMean_90 : decode cX4_mergeMean 90 = .ok (.iload 6, 2) := by decide +kernel
theorem dX4_mergeMean_92 : decode cX4_mergeMean 92 = .ok (.aload_n 0, 1) := by decide +kernel
theorem dX4_mergeMean_93 : decode cX4_mergeMean 93 = .ok (.getfield 9, 3) := by decide +kernel
theorem dX4_mergeMean_96 : decode cX4_mergeMean 96 = .ok (.iload_n 3, 1) := by decide +kernel
theorem dX4_mergeMean_97 : decode cX4_mergeMean 97 = .ok (.aload_n 0, 1) := by decide +kernel
theorem dX4_mergeMean_98 : decode cX4_mergeMean 98 = .ok (.getfield 15, 3) := by decide +kernel
theorem dX4_mergeMean_101 : decode cX4_mergeMean 101 = .ok (.iload 4, 2) := by decide +kernel
theorem dX4_mergeMean_103 : decode cX4_mergeMean 103 = .ok (.invokevirtual 84, 3) := by decide +kernel
theorem dX4_mergeMean_106 : decode cX4_mergeMean 106 = .ok (.return_, 1) := by decide +kernel
theorem dX5_fits_0 : decode cX5_fits 0 = .ok (.iload_n 1, 1) := by decide +kernel
theorem dX5_fits_1 : decode cX5_fits 1 = .ok (.bipush 9, 2) := by decide +kernel
theorem dX5_fits_3 : decode cX5_fits 3 = .ok (.if_icmp .ne 5, 3) := by decide +kernel
theorem dX5_fits_6 : decode cX5_fits 6 = .ok (.iconst 1, 1) := by decide +kernel
theorem dX5_fits_7 : decode cX5_fits 7 = .ok (.ireturn, 1) := by decide +kernel
theorem dX5_fits_8 : decode cX5_fits 8 = .ok (.iload_n 1, 1) := by decide +kernel
theorem dX5_fits_9 : decode cX5_fits 9 = .ok (.bipush 7, 2) := by decide +kernel
theorem dX5_fits_11 : decode cX5_fits 11 = .ok (.if_icmp .le 20, 3) := by decide +kernel
theorem dX5_fits_14 : decode cX5_fits 14 = .ok (.iload_n 0, 1) := by decide +kernel
theorem dX5_fits_15 : decode cX5_fits 15 = .ok (.iload_n 1, 1) := by decide +kernel
theorem dX5_fits_16 : decode cX5_fits 16 = .ok (.if_icmp .eq 9, 3) := by decide +kernel
theorem dX5_fits_19 : decode cX5_fits 19 = .ok (.iload_n 0, 1) := by decide +kernel
theorem dX5_fits_20 : decode cX5_fits 20 = .ok (.bipush 9, 2) := by decide +kernel
theorem dX5_fits_22 : decode cX5_fits 22 = .ok (.if_icmp .ne 7, 3) := by decide +kernel
theorem dX5_fits_25 : decode cX5_fits 25 = .ok (.iconst 1, 1) := by decide +kernel
theorem dX5_fits_26 : decode cX5_fits 26 = .ok (.goto 4, 3) := by decide +kernel
theorem dX5_fits_29 : decode cX5_fits 29 = .ok (.iconst 0, 1) := by decide +kernel
theorem dX5_fits_30 : decode cX5_fits 30 = .ok (.ireturn, 1) := by decide +kernel
theorem dX5_fits_31 : decode cX5_fits 31 = .ok (.iload_n 0, 1) := by decide +kernel
theorem dX5_fits_32 : decode cX5_fits 32 = .ok (.iload_n 1, 1) := by decide +kernel
theorem dX5_fits_33 : decode cX5_fits 33 = .ok (.if_icmp .ne 5, 3) := by decide +kernel
theorem dX5_fits_36 : decode cX5_fits 36 = .ok (.iconst 1, 1) := by decide +kernel
theorem dX5_fits_37 : decode cX5_fits 37 = .ok (.ireturn, 1) := by decide +kernel
theorem dX5_fits_38 : decode cX5_fits 38 = .ok (.iload_n 0, 1) := by decide +kernel
theorem dX5_fits_39 : decode cX5_fits 39 = .ok (.ifCond .eq 9, 3) := by decide +kernel
theorem dX5_fits_42 : decode cX5_fits 42 = .ok (.iload_n 0, 1) := by decide +kernel
theorem dX5_fits_43 : decode cX5_fits 43 = .ok (.bipush 7, 2) := by decide +kernel
theorem dX5_fits_45 : decode cX5_fits 45 = .ok (.if_icmp .le 5, 3) := by decide +kernel
theorem dX5_fits_48 : decode cX5_fits 48 = .ok (.iconst 0, 1) := by decide +kernel
theorem dX5_fits_49 : decode cX5_fits 49 = .ok (.ireturn, 1) := by decide +kernel
theorem dX5_fits_50 : decode cX5_fits 50 = .ok (.iload_n 1, 1) := by decide +kernel
theorem dX5_fits_51 : decode cX5_fits 51 = .ok (.iconst 4, 1) := by decide +kernel
theorem dX5_fits_52 : decode cX5_fits 52 = .ok (.if_icmp .lt 16, 3) := by decide +kernel
theorem dX5_fits_55 : decode cX5_fits 55 = .ok (.iload_n 0, 1) := by decide +kernel
theorem dX5_fits_56 : decode cX5_fits 56 = .ok (.iload_n 1, 1) := by decide +kernel
theorem dX5_fits_57 : decode cX5_fits 57 = .ok (.if_icmp .ge 7, 3) := by decide +kernel
theorem dX5_fits_60 : decode cX5_fits 60 = .ok (.iconst 1, 1) := by decide +kernel
theorem dX5_fits_61 : decode cX5_fits 61 = .ok (.goto 22, 3) := by decide +kernel
theorem dX5_fits_64 : decode cX5_fits 64 = .ok (.iconst 0, 1) := by decide +kernel
theorem dX5_fits_65 : decode cX5_fits 65 = .ok (.goto 18, 3) := by decide +kernel
theorem dX5_fits_68 : decode cX5_fits 68 = .ok (.iload_n 1, 1) := by decide +kernel
theorem dX5_fits_69 : decode cX5_fits 69 = .ok (.iconst 3, 1) := by decide +kernel
theorem dX5_fits_70 : decode cX5_fits 70 = .ok (.if_icmp .ne 12, 3) := by decide +kernel
theorem dX5_fits_73 : decode cX5_fits 73 = .ok (.iload_n 0, 1) := by decide +kernel
theorem dX5_fits_74 : decode cX5_fits 74 = .ok (.iconst 1, 1) := by decide +kernel
theorem dX5_fits_75 : decode cX5_fits 75 = .ok (.if_icmp .ne 7, 3) := by decide +kernel
theorem dX5_fits_78 : decode cX5_fits 78 = .ok (.iconst 1, 1) := by decide +kernel
theorem dX5_fits_79 : decode cX5_fits 79 = .ok (.goto 4, 3) := by decide +kernel
theorem dX5_fits_82 : decode cX5_fits 82 = .ok (.iconst 0, 1) := by decide +kernel
theorem dX5_fits_83 : decode cX5_fits 83 = .ok (.ireturn, 1) := by decide +kernel
theorem dX5_joined_0 : decode cX5_joined 0 = .ok (.iload_n 0, 1) := by decide +kernel
theorem dX5_joined_1 : decode cX5_joined 1 = .ok (.iload_n 1, 1) := by decide +kernel
theorem dX5_joined_2 : decode cX5_joined 2 = .ok (.if_icmp .ne 5, 3) := by decide +kernel
theorem dX5_joined_5 : decode cX5_joined 5 = .ok (.iload_n 0, 1) := by decide +kernel
theorem dX5_joined_6 : decode cX5_joined 6 = .ok (.ireturn, 1) := by decide +kernel
theorem dX5_joined_7 : decode cX5_joined 7 = .ok (.iload_n 0, 1) := by decide +kernel
theorem dX5_joined_8 : decode cX5_joined 8 = .ok (.ifCond .eq 7, 3) := by decide +kernel
theorem dX5_joined_11 : decode cX5_joined 11 = .ok (.iload_n 1, 1) := by decide +kernel
theorem dX5_joined_12 : decode cX5_joined 12 = .ok (.ifCond .ne 5, 3) := by decide +kernel
theorem dX5_joined_15 : decode cX5_joined 15 = .ok (.iconst (-1), 1) := by decide +kernel
theorem dX5_joined_16 : decode cX5_joined 16 = .ok (.ireturn, 1) := by decide +kernel
theorem dX5_joined_17 : decode cX5_joined 17 = .ok (.iload_n 0, 1) := by decide +kernel
theorem dX5_joined_18 : decode cX5_joined 18 = .ok (.iload_n 1, 1) := by decide +kernel
theorem dX5_joined_19 : decode cX5_joined 19 = .ok (.invokestatic 9, 3) := by decide +kernel
theorem dX5_joined_22 : decode cX5_joined 22 = .ok (.istore_n 2, 1) := by decide +kernel
theorem dX5_joined_23 : decode cX5_joined 23 = .ok (.iload_n 2, 1) := by decide +kernel
theorem dX5_joined_24 : decode cX5_joined 24 = .ok (.iconst 4, 1) := by decide +kernel
theorem dX5_joined_25 : decode cX5_joined 25 = .ok (.if_icmp .lt 5, 3) := by decide +kernel
theorem dX5_joined_28 : decode cX5_joined 28 = .ok (.iload_n 2, 1) := by decide +kernel
theorem dX5_joined_29 : decode cX5_joined 29 = .ok (.ireturn, 1) := by decide +kernel
theorem dX5_joined_30 : decode cX5_joined 30 = .ok (.iload_n 0, 1) := by decide +kernel
theorem dX5_joined_31 : decode cX5_joined 31 = .ok (.iconst 2, 1) := by decide +kernel
theorem dX5_joined_32 : decode cX5_joined 32 = .ok (.if_icmp .eq 8, 3) := by decide +kernel
theorem dX5_joined_35 : decode cX5_joined 35 = .ok (.iload_n 1, 1) := by decide +kernel
theorem dX5_joined_36 : decode cX5_joined 36 = .ok (.iconst 2, 1) := by decide +kernel
theorem dX5_joined_37 : decode cX5_joined 37 = .ok (.if_icmp .ne 7, 3) := by decide +kernel
theorem dX5_joined_40 : decode cX5_joined 40 = .ok (.iconst 4, 1) := by decide +kernel
theorem dX5_joined_41 : decode cX5_joined 41 = .ok (.goto 4, 3) := by decide +kernel
theorem dX5_joined_44 : decode cX5_joined 44 = .ok (.iconst 3, 1) := by decide +kernel
theorem dX5_joined_45 : decode cX5_joined 45 = .ok (.ireturn, 1) := by decide +kernel
theorem dX5_isReal_0 : decode cX5_isReal 0 = .ok (.iload_n 0, 1) := by decide +kernel
theorem dX5_isReal_1 : decode cX5_isReal 1 = .ok (.bipush 6, 2) := by decide +kernel
theorem dX5_isReal_3 : decode cX5_isReal 3 = .ok (.if_icmp .eq 9, 3) := by decide +kernel
theorem dX5_isReal_6 : decode cX5_isReal 6 = .ok (.iload_n 0, 1) := by decide +kernel
theorem dX5_isReal_7 : decode cX5_isReal 7 = .ok (.bipush 7, 2) := by decide +kernel
theorem dX5_isReal_9 : decode cX5_isReal 9 = .ok (.if_icmp .ne 7, 3) := by decide +kernel
theorem dX5_isReal_12 : decode cX5_isReal 12 = .ok (.iconst 1, 1) := by decide +kernel
theorem dX5_isReal_13 : decode cX5_isReal 13 = .ok (.goto 4, 3) := by decide +kernel
theorem dX5_isReal_16 : decode cX5_isReal 16 = .ok (.iconst 0, 1) := by decide +kernel
theorem dX5_isReal_17 : decode cX5_isReal 17 = .ok (.ireturn, 1) := by decide +kernel
theorem dX6_verdict_0 : decode cX6_verdict 0 = .ok (.aload_n 0, 1) := by decide +kernel
theorem dX6_verdict_1 : decode cX6_verdict 1 = .ok (.getfield 9, 3) := by decide +kernel
theorem dX6_verdict_4 : decode cX6_verdict 4 = .ok (.iload_n 1, 1) := by decide +kernel
theorem dX6_verdict_5 : decode cX6_verdict 5 = .ok (.iaload, 1) := by decide +kernel
theorem dX6_verdict_6 : decode cX6_verdict 6 = .ok (.istore 5, 2) := by decide +kernel
theorem dX6_verdict_8 : decode cX6_verdict 8 = .ok (.aload_n 2, 1) := by decide +kernel
theorem dX6_verdict_9 : decode cX6_verdict 9 = .ok (.getfield 9, 3) := by decide +kernel
theorem dX6_verdict_12 : decode cX6_verdict 12 = .ok (.iload_n 3, 1) := by decide +kernel
theorem dX6_verdict_13 : decode cX6_verdict 13 = .ok (.iaload, 1) := by decide +kernel
theorem dX6_verdict_14 : decode cX6_verdict 14 = .ok (.istore 6, 2) := by decide +kernel
theorem dX6_verdict_16 : decode cX6_verdict 16 = .ok (.iload 5, 2) := by decide +kernel
theorem dX6_verdict_18 : decode cX6_verdict 18 = .ok (.bipush 7, 2) := by decide +kernel
theorem dX6_verdict_20 : decode cX6_verdict 20 = .ok (.if_icmp .gt 10, 3) := by decide +kernel
theorem dX6_verdict_23 : decode cX6_verdict 23 = .ok (.iload 6, 2) := by decide +kernel
theorem dX6_verdict_25 : decode cX6_verdict 25 = .ok (.bipush 7, 2) := by decide +kernel
theorem dX6_verdict_27 : decode cX6_verdict 27 = .ok (.if_icmp .le 32, 3) := by decide +kernel
theorem dX6_verdict_30 : decode cX6_verdict 30 = .ok (.iload 5, 2) := by decide +kernel
theorem dX6_verdict_32 : decode cX6_verdict 32 = .ok (.iload 6, 2) := by decide +kernel
theorem dX6_verdict_34 : decode cX6_verdict 34 = .ok (.if_icmp .ne 23, 3) := by decide +kernel
theorem dX6_verdict_37 : decode cX6_verdict 37 = .ok (.aload_n 0, 1) := by decide +kernel
theorem dX6_verdict_38 : decode cX6_verdict 38 = .ok (.getfield 15, 3) := by decide +kernel
theorem dX6_verdict_41 : decode cX6_verdict 41 = .ok (.iload_n 1, 1) := by decide +kernel
theorem dX6_verdict_42 : decode cX6_verdict 42 = .ok (.laload, 1) := by decide +kernel
theorem dX6_verdict_43 : decode cX6_verdict 43 = .ok (.aload_n 2, 1) := by decide +kernel
theorem dX6_verdict_44 : decode cX6_verdict 44 = .ok (.getfield 15, 3) := by decide +kernel
theorem dX6_verdict_47 : decode cX6_verdict 47 = .ok (.iload_n 3, 1) := by decide +kernel
theorem dX6_verdict_48 : decode cX6_verdict 48 = .ok (.laload, 1) := by decide +kernel
theorem dX6_verdict_49 : decode cX6_verdict 49 = .ok (.lcmp, 1) := by decide +kernel
theorem dX6_verdict_50 : decode cX6_verdict 50 = .ok (.ifCond .ne 7, 3) := by decide +kernel
theorem dX6_verdict_53 : decode cX6_verdict 53 = .ok (.iconst 0, 1) := by decide +kernel
theorem dX6_verdict_54 : decode cX6_verdict 54 = .ok (.goto 4, 3) := by decide +kernel
theorem dX6_verdict_57 : decode cX6_verdict 57 = .ok (.iconst 2, 1) := by decide +kernel
theorem dX6_verdict_58 : decode cX6_verdict 58 = .ok (.ireturn, 1) := by decide +kernel
theorem dX6_verdict_59 : decode cX6_verdict 59 = .ok (.iload 5, 2) := by decide +kernel
theorem dX6_verdict_61 : decode cX6_verdict 61 = .ok (.iload 6, 2) := by decide +kernel
theorem dX6_verdict_63 : decode cX6_verdict 63 = .ok (.invokestatic 19, 3) := by decide +kernel
theorem dX6_verdict_66 : decode cX6_verdict 66 = .ok (.istore 7, 2) := by decide +kernel
theorem dX6_verdict_68 : decode cX6_verdict 68 = .ok (.iload 7, 2) := by decide +kernel
theorem dX6_verdict_70 : decode cX6_verdict 70 = .ok (.iconst (-1), 1) := by decide +kernel
theorem dX6_verdict_71 : decode cX6_verdict 71 = .ok (.if_icmp .ne 5, 3) := by decide +kernel
theorem dX6_verdict_74 : decode cX6_verdict 74 = .ok (.iconst 2, 1) := by decide +kernel
theorem dX6_verdict_75 : decode cX6_verdict 75 = .ok (.ireturn, 1) := by decide +kernel
theorem dX6_verdict_76 : decode cX6_verdict 76 = .ok (.iload 7, 2) := by decide +kernel
theorem dX6_verdict_78 : decode cX6_verdict 78 = .ok (.invokestatic 25, 3) := by decide +kernel
theorem dX6_verdict_81 : decode cX6_verdict 81 = .ok (.ifCond .eq 23, 3) := by decide +kernel
theorem dX6_verdict_84 : decode cX6_verdict 84 = .ok (.aload_n 0, 1) := by decide +kernel
theorem dX6_verdict_85 : decode cX6_verdict 85 = .ok (.iload_n 1, 1) := by decide +kernel
theorem dX6_verdict_86 : decode cX6_verdict 86 = .ok (.iload 7, 2) := by decide +kernel
theorem dX6_verdict_88 : decode cX6_verdict 88 = .ok (.invokevirtual 29, 3) := by decide +kernel
theorem dX6_verdict_91 : decode cX6_verdict 91 = .ok (.aload_n 2, 1) := by decide +kernel
theorem dX6_verdict_92 : decode cX6_verdict 92 = .ok (.iload_n 3, 1) := by decide +kernel
theorem dX6_verdict_93 : decode cX6_verdict 93 = .ok (.iload 7, 2) := by decide +kernel
theorem dX6_verdict_95 : decode cX6_verdict 95 = .ok (.invokevirtual 29, 3) := by decide +kernel
theorem dX6_verdict_98 : decode cX6_verdict 98 = .ok (.iload 4, 2) := by decide +kernel
theorem dX6_verdict_100 : decode cX6_verdict 100 = .ok (.invokestatic 33, 3) := by decide +kernel
theorem dX6_verdict_103 : decode cX6_verdict 103 = .ok (.ireturn, 1) := by decide +kernel
theorem dX6_verdict_104 : decode cX6_verdict 104 = .ok (.aload_n 0, 1) := by decide +kernel
theorem dX6_verdict_105 : decode cX6_verdict 105 = .ok (.getfield 15, 3) := by decide +kernel
theorem dX6_verdict_108 : decode cX6_verdict 108 = .ok (.iload_n 1, 1) := by decide +kernel
theorem dX6_verdict_109 : decode cX6_verdict 109 = .ok (.laload, 1) := by decide +kernel
theorem dX6_verdict_110 : decode cX6_verdict 110 = .ok (.aload_n 2, 1) := by decide +kernel
theorem dX6_verdict_111 : decode cX6_verdict 111 = .ok (.getfield 15, 3) := by decide +kernel
theorem dX6_verdict_114 : decode cX6_verdict 114 = .ok (.iload_n 3, 1) := by decide +kernel
theorem dX6_verdict_115 : decode cX6_verdict 115 = .ok (.laload, 1) := by decide +kernel
theorem dX6_verdict_116 : decode cX6_verdict 116 = .ok (.lcmp, 1) := by decide +kernel
theorem dX6_verdict_117 : decode cX6_verdict 117 = .ok (.ifCond .ne 5, 3) := by decide +kernel
theorem dX6_verdict_120 : decode cX6_verdict 120 = .ok (.iconst 0, 1) := by decide +kernel
theorem dX6_verdict_121 : decode cX6_verdict 121 = .ok (.ireturn, 1) := by decide +kernel
theorem dX6_verdict_122 : decode cX6_verdict 122 = .ok (.iload 7, 2) := by decide +kernel
theorem dX6_verdict_124 : decode cX6_verdict 124 = .ok (.ifCond .eq 27, 3) := by decide +kernel
theorem dX6_verdict_127 : decode cX6_verdict 127 = .ok (.aload_n 0, 1) := by decide +kernel
theorem dX6_verdict_128 : decode cX6_verdict 128 = .ok (.getfield 15, 3) := by decide +kernel
theorem dX6_verdict_131 : decode cX6_verdict 131 = .ok (.iload_n 1, 1) := by decide +kernel
theorem dX6_verdict_132 : decode cX6_verdict 132 = .ok (.laload, 1) := by decide +kernel
theorem dX6_verdict_133 : decode cX6_verdict 133 = .ok (.aload_n 2, 1) := by decide +kernel
theorem dX6_verdict_134 : decode cX6_verdict 134 = .ok (.getfield 15, 3) := by decide +kernel
theorem dX6_verdict_137 : decode cX6_verdict 137 = .ok (.iload_n 3, 1) := by decide +kernel
theorem dX6_verdict_138 : decode cX6_verdict 138 = .ok (.laload, 1) := by decide +kernel
theorem dX6_verdict_139 : decode cX6_verdict 139 = .ok (.iload 4, 2) := by decide +kernel
theorem dX6_verdict_141 : decode cX6_verdict 141 = .ok (.invokestatic 39, 3) := by decide +kernel
theorem dX6_verdict_144 : decode cX6_verdict 144 = .ok (.ifCond .eq 7, 3) := by decide +kernel
theorem dX6_verdict_147 : decode cX6_verdict 147 = .ok (.iconst 1, 1) := by decide +kernel
theorem dX6_verdict_148 : decode cX6_verdict 148 = .ok (.goto 4, 3) := by decide +kernel
theorem dX6_verdict_151 : decode cX6_verdict 151 = .ok (.iconst 2, 1) := by decide +kernel
theorem dX6_verdict_152 : decode cX6_verdict 152 = .ok (.ireturn, 1) := by decide +kernel
theorem dX6_ofReals_0 : decode cX6_ofReals 0 = .ok (.dload_n 0, 1) := by decide +kernel
theorem dX6_ofReals_1 : decode cX6_ofReals 1 = .ok (.dload_n 2, 1) := by decide +kernel
theorem dX6_ofReals_2 : decode cX6_ofReals 2 = .ok (.dcmp .l, 1) := by decide +kernel
theorem dX6_ofReals_3 : decode cX6_ofReals 3 = .ok (.ifCond .ne 5, 3) := by decide +kernel
theorem dX6_ofReals_6 : decode cX6_ofReals 6 = .ok (.iconst 0, 1) := by decide +kernel
theorem dX6_ofReals_7 : decode cX6_ofReals 7 = .ok (.ireturn, 1) := by decide +kernel
theorem dX6_ofReals_8 : decode cX6_ofReals 8 = .ok (.dload_n 0, 1) := by decide +kernel
theorem dX6_ofReals_9 : decode cX6_ofReals 9 = .ok (.dload_n 2, 1) := by decide +kernel
theorem dX6_ofReals_10 : decode cX6_ofReals 10 = .ok (.dcmp .g, 1) := by decide +kernel
theorem dX6_ofReals_11 : decode cX6_ofReals 11 = .ok (.ifCond .ge 9, 3) := by decide +kernel
theorem dX6_ofReals_14 : decode cX6_ofReals 14 = .ok (.dload_n 2, 1) := by decide +kernel
theorem dX6_ofReals_15 : decode cX6_ofReals 15 = .ok (.dload_n 0, 1) := by decide +kernel
theorem dX6_ofReals_16 : decode cX6_ofReals 16 = .ok (.dsub, 1) := by decide +kernel
theorem dX6_ofReals_17 : decode cX6_ofReals 17 = .ok (.goto 6, 3) := by decide +kernel
theorem dX6_ofReals_20 : decode cX6_ofReals 20 = .ok (.dload_n 0, 1) := by decide +kernel
theorem dX6_ofReals_21 : decode cX6_ofReals 21 = .ok (.dload_n 2, 1) := by decide +kernel
theorem dX6_ofReals_22 : decode cX6_ofReals 22 = .ok (.dsub, 1) := by decide +kernel
theorem dX6_ofReals_23 : decode cX6_ofReals 23 = .ok (.dstore 5, 2) := by decide +kernel
theorem dX6_ofReals_25 : decode cX6_ofReals 25 = .ok (.dload 5, 2) := by decide +kernel
theorem dX6_ofReals_27 : decode cX6_ofReals 27 = .ok (.iload 4, 2) := by decide +kernel
theorem dX6_ofReals_29 : decode cX6_ofReals 29 = .ok (.i2d, 1) := by decide +kernel
theorem dX6_ofReals_30 : decode cX6_ofReals 30 = .ok (.dcmp .g, 1) := by decide +kernel
theorem dX6_ofReals_31 : decode cX6_ofReals 31 = .ok (.ifCond .gt 7, 3) := by decide +kernel
theorem dX6_ofReals_34 : decode cX6_ofReals 34 = .ok (.iconst 1, 1) := by decide +kernel
theorem dX6_ofReals_35 : decode cX6_ofReals 35 = .ok (.goto 4, 3) := by decide +kernel
theorem dX6_ofReals_38 : decode cX6_ofReals 38 = .ok (.iconst 2, 1) := by decide +kernel
theorem dX6_ofReals_39 : decode cX6_ofReals 39 = .ok (.ireturn, 1) := by decide +kernel
theorem dX6_isClose_0 : decode cX6_isClose 0 = .ok (.lload_n 0, 1) := by decide +kernel
theorem dX6_isClose_1 : decode cX6_isClose 1 = .ok (.lload_n 2, 1) := by decide +kernel
theorem dX6_isClose_2 : decode cX6_isClose 2 = .ok (.lcmp, 1) := by decide +kernel
theorem dX6_isClose_3 : decode cX6_isClose 3 = .ok (.ifCond .ge 9, 3) := by decide +kernel
theorem dX6_isClose_6 : decode cX6_isClose 6 = .ok (.lload_n 2, 1) := by decide +kernel
theorem dX6_isClose_7 : decode cX6_isClose 7 = .ok (.lload_n 0, 1) := by decide +kernel
theorem dX6_isClose_8 : decode cX6_isClose 8 = .ok (.lsub, 1) := by decide +kernel
theorem dX6_isClose_9 : decode cX6_isClose 9 = .ok (.goto 6, 3) := by decide +kernel
theorem dX6_isClose_12 : decode cX6_isClose 12 = .ok (.lload_n 0, 1) := by decide +kernel
theorem dX6_isClose_13 : decode cX6_isClose 13 = .ok (.lload_n 2, 1) := by decide +kernel
theorem dX6_isClose_14 : decode cX6_isClose 14 = .ok (.lsub, 1) := by decide +kernel
theorem dX6_isClose_15 : decode cX6_isClose 15 = .ok (.lstore 5, 2) := by decide +kernel
theorem dX6_isClose_17 : decode cX6_isClose 17 = .ok (.lload 5, 2) := by decide +kernel
theorem dX6_isClose_19 : decode cX6_isClose 19 = .ok (.lconst 0, 1) := by decide +kernel
theorem dX6_isClose_20 : decode cX6_isClose 20 = .ok (.lcmp, 1) := by decide +kernel
theorem dX6_isClose_21 : decode cX6_isClose 21 = .ok (.ifCond .lt 16, 3) := by decide +kernel
theorem dX6_isClose_24 : decode cX6_isClose 24 = .ok (.lload 5, 2) := by decide +kernel
theorem dX6_isClose_26 : decode cX6_isClose 26 = .ok (.iload 4, 2) := by decide +kernel
theorem dX6_isClose_28 : decode cX6_isClose 28 = .ok (.i2l, 1) := by decide +kernel
theorem dX6_isClose_29 : decode cX6_isClose 29 = .ok (.lcmp, 1) := by decide +kernel
theorem dX6_isClose_30 : decode cX6_isClose 30 = .ok (.ifCond .gt 7, 3) := by decide +kernel
theorem dX6_isClose_33 : decode cX6_isClose 33 = .ok (.iconst 1, 1) := by decide +kernel
theorem dX6_isClose_34 : decode cX6_isClose 34 = .ok (.goto 4, 3) := by decide +kernel
theorem dX6_isClose_37 : decode cX6_isClose 37 = .ok (.iconst 0, 1) := by decide +kernel
theorem dX6_isClose_38 : decode cX6_isClose 38 = .ok (.ireturn, 1) := by decide +kernel
theorem dX6_isAlike_0 : decode cX6_isAlike 0 = .ok (.aload_n 0, 1) := by decide +kernel
theorem dX6_isAlike_1 : decode cX6_isAlike 1 = .ok (.iload_n 1, 1) := by decide +kernel
theorem dX6_isAlike_2 : decode cX6_isAlike 2 = .ok (.aload_n 2, 1) := by decide +kernel
theorem dX6_isAlike_3 : decode cX6_isAlike 3 = .ok (.iload_n 3, 1) := by decide +kernel
theorem dX6_isAlike_4 : decode cX6_isAlike 4 = .ok (.iconst 0, 1) := by decide +kernel
theorem dX6_isAlike_5 : decode cX6_isAlike 5 = .ok (.invokestatic 43, 3) := by decide +kernel
theorem dX6_isAlike_8 : decode cX6_isAlike 8 = .ok (.ifCond .ne 7, 3) := by decide +kernel
theorem dX6_isAlike_11 : decode cX6_isAlike 11 = .ok (.iconst 1, 1) := by decide +kernel
theorem dX6_isAlike_12 : decode cX6_isAlike 12 = .ok (.goto 4, 3) := by decide +kernel
theorem dX6_isAlike_15 : decode cX6_isAlike 15 = .ok (.iconst 0, 1) := by decide +kernel
theorem dX6_isAlike_16 : decode cX6_isAlike 16 = .ok (.ireturn, 1) := by decide +kernel
theorem dX6_alikeAtShift_0 : decode cX6_alikeAtShift 0 = .ok (.iconst 0, 1) := by decide +kernel
theorem dX6_alikeAtShift_1 : decode cX6_alikeAtShift 1 = .ok (.istore_n 3, 1) := by decide +kernel
theorem dX6_alikeAtShift_2 : decode cX6_alikeAtShift 2 = .ok (.aload_n 0, 1) := by decide +kernel
theorem dX6_alikeAtShift_3 : decode cX6_alikeAtShift 3 = .ok (.getfield 47, 3) := by decide +kernel
theorem dX6_alikeAtShift_6 : decode cX6_alikeAtShift 6 = .ok (.aload_n 1, 1) := by decide +kernel
theorem dX6_alikeAtShift_7 : decode cX6_alikeAtShift 7 = .ok (.getfield 47, 3) := by decide +kernel
theorem dX6_alikeAtShift_10 : decode cX6_alikeAtShift 10 = .ok (.iload_n 2, 1) := by decide +kernel
theorem dX6_alikeAtShift_11 : decode cX6_alikeAtShift 11 = .ok (.isub, 1) := by decide +kernel
theorem dX6_alikeAtShift_12 : decode cX6_alikeAtShift 12 = .ok (.invokestatic 51, 3) := by decide +kernel
theorem dX6_alikeAtShift_15 : decode cX6_alikeAtShift 15 = .ok (.istore 4, 2) := by decide +kernel
theorem dX6_alikeAtShift_17 : decode cX6_alikeAtShift 17 = .ok (.iconst 0, 1) := by decide +kernel
theorem dX6_alikeAtShift_18 : decode cX6_alikeAtShift 18 = .ok (.iload_n 2, 1) := by decide +kernel
theorem dX6_alikeAtShift_19 : decode cX6_alikeAtShift 19 = .ok (.ineg, 1) := by decide +kernel
theorem dX6_alikeAtShift_20 : decode cX6_alikeAtShift 20 = .ok (.invokestatic 56, 3) := by decide +kernel
theorem dX6_alikeAtShift_23 : decode cX6_alikeAtShift 23 = .ok (.istore 5, 2) := by decide +kernel
theorem dX6_alikeAtShift_25 : decode cX6_alikeAtShift 25 = .ok (.iload 5, 2) := by decide +kernel
theorem dX6_alikeAtShift_27 : decode cX6_alikeAtShift 27 = .ok (.iload 4, 2) := by decide +kernel
theorem dX6_alikeAtShift_29 : decode cX6_alikeAtShift 29 = .ok (.if_icmp .ge 26, 3) := by decide +kernel
theorem dX6_alikeAtShift_32 : decode cX6_alikeAtShift 32 = .ok (.aload_n 0, 1) := by decide +kernel
theorem dX6_alikeAtShift_33 : decode cX6_alikeAtShift 33 = .ok (.iload 5, 2) := by decide +kernel
theorem dX6_alikeAtShift_35 : decode cX6_alikeAtShift 35 = .ok (.aload_n 1, 1) := by decide +kernel
theorem dX6_alikeAtShift_36 : decode cX6_alikeAtShift 36 = .ok (.iload 5, 2) := by decide +kernel
theorem dX6_alikeAtShift_38 : decode cX6_alikeAtShift 38 = .ok (.iload_n 2, 1) := by decide +kernel
theorem dX6_alikeAtShift_39 : decode cX6_alikeAtShift 39 = .ok (.iadd, 1) := by decide +kernel
theorem dX6_alikeAtShift_40 : decode cX6_alikeAtShift 40 = .ok (.invokestatic 59, 3) := by decide +kernel
theorem dX6_alikeAtShift_43 : decode cX6_alikeAtShift 43 = .ok (.ifCond .eq 6, 3) := by decide +kernel
theorem dX6_alikeAtShift_46 : decode cX6_alikeAtShift 46 = .ok (.iinc 3 1, 3) := by decide +kernel
theorem dX6_alikeAtShift_49 : decode cX6_alikeAtShift 49 = .ok (.iinc 5 1, 3) := by decide +kernel
theorem dX6_alikeAtShift_52 : decode cX6_alikeAtShift 52 = .ok (.goto (-27), 3) := by decide +kernel
theorem dX6_alikeAtShift_55 : decode cX6_alikeAtShift 55 = .ok (.iload_n 3, 1) := by decide +kernel
theorem dX6_alikeAtShift_56 : decode cX6_alikeAtShift 56 = .ok (.ireturn, 1) := by decide +kernel
theorem dX7_init_0 : decode cX7_init 0 = .ok (.aload_n 0, 1) := by decide +kernel
theorem dX7_init_1 : decode cX7_init 1 = .ok (.invokespecial 3, 3) := by decide +kernel
theorem dX7_init_4 : decode cX7_init 4 = .ok (.aload_n 0, 1) := by decide +kernel
theorem dX7_init_5 : decode cX7_init 5 = .ok (.aload_n 1, 1) := by decide +kernel
theorem dX7_init_6 : decode cX7_init 6 = .ok (.getfield 9, 3) := by decide +kernel
theorem dX7_init_9 : decode cX7_init 9 = .ok (.putfield 15, 3) := by decide +kernel
theorem dX7_init_12 : decode cX7_init 12 = .ok (.aload_n 0, 1) := by decide +kernel
theorem dX7_init_13 : decode cX7_init 13 = .ok (.aload_n 0, 1) := by decide +kernel
theorem dX7_init_14 : decode cX7_init 14 = .ok (.getfield 15, 3) := by decide +kernel
theorem dX7_init_17 : decode cX7_init 17 = .ok (.newarray .int, 2) := by decide +kernel
theorem dX7_init_19 : decode cX7_init 19 = .ok (.putfield 20, 3) := by decide +kernel
theorem dX7_init_22 : decode cX7_init 22 = .ok (.aload_n 0, 1) := by decide +kernel
theorem dX7_init_23 : decode cX7_init 23 = .ok (.new 24, 3) := by decide +kernel
theorem dX7_init_26 : decode cX7_init 26 = .ok (.dup, 1) := by decide +kernel
theorem dX7_init_27 : decode cX7_init 27 = .ok (.bipush 9, 2) := by decide +kernel
theorem dX7_init_29 : decode cX7_init 29 = .ok (.aload_n 0, 1) := by decide +kernel
theorem dX7_init_30 : decode cX7_init 30 = .ok (.getfield 15, 3) := by decide +kernel
theorem dX7_init_33 : decode cX7_init 33 = .ok (.invokespecial 26, 3) := by decide +kernel
theorem dX7_init_36 : decode cX7_init 36 = .ok (.putfield 29, 3) := by decide +kernel
theorem dX7_init_39 : decode cX7_init 39 = .ok (.aload_n 0, 1) := by decide +kernel
theorem dX7_init_40 : decode cX7_init 40 = .ok (.new 24, 3) := by decide +kernel
theorem dX7_init_43 : decode cX7_init 43 = .ok (.dup, 1) := by decide +kernel
theorem dX7_init_44 : decode cX7_init 44 = .ok (.bipush 9, 2) := by decide +kernel
theorem dX7_init_46 : decode cX7_init 46 = .ok (.aload_n 0, 1) := by decide +kernel
theorem dX7_init_47 : decode cX7_init 47 = .ok (.getfield 15, 3) := by decide +kernel
theorem dX7_init_50 : decode cX7_init 50 = .ok (.invokespecial 26, 3) := by decide +kernel
theorem dX7_init_53 : decode cX7_init 53 = .ok (.putfield 33, 3) := by decide +kernel
theorem dX7_init_56 : decode cX7_init 56 = .ok (.iconst 0, 1) := by decide +kernel
theorem dX7_init_57 : decode cX7_init 57 = .ok (.istore_n 2, 1) := by decide +kernel
theorem dX7_init_58 : decode cX7_init 58 = .ok (.iload_n 2, 1) := by decide +kernel
theorem dX7_init_59 : decode cX7_init 59 = .ok (.aload_n 0, 1) := by decide +kernel
theorem dX7_init_60 : decode cX7_init 60 = .ok (.getfield 15, 3) := by decide +kernel
theorem dX7_init_63 : decode cX7_init 63 = .ok (.if_icmp .ge 82, 3) := by decide +kernel
theorem dX7_init_66 : decode cX7_init 66 = .ok (.aload_n 0, 1) := by decide +kernel
theorem dX7_init_67 : decode cX7_init 67 = .ok (.getfield 20, 3) := by decide +kernel
theorem dX7_init_70 : decode cX7_init 70 = .ok (.iload_n 2, 1) := by decide +kernel
theorem dX7_init_71 : decode cX7_init 71 = .ok (.aload_n 1, 1) := by decide +kernel
theorem dX7_init_72 : decode cX7_init 72 = .ok (.getfield 36, 3) := by decide +kernel
theorem dX7_init_75 : decode cX7_init 75 = .ok (.iload_n 2, 1) := by decide +kernel
theorem dX7_init_76 : decode cX7_init 76 = .ok (.iaload, 1) := by decide +kernel
theorem dX7_init_77 : decode cX7_init 77 = .ok (.aload_n 1, 1) := by decide +kernel
theorem dX7_init_78 : decode cX7_init 78 = .ok (.getfield 39, 3) := by decide +kernel
theorem dX7_init_81 : decode cX7_init 81 = .ok (.iload_n 2, 1) := by decide +kernel
theorem dX7_init_82 : decode cX7_init 82 = .ok (.iaload, 1) := by decide +kernel
theorem dX7_init_83 : decode cX7_init 83 = .ok (.invokestatic 42, 3) := by decide +kernel
theorem dX7_init_86 : decode cX7_init 86 = .ok (.iastore, 1) := by decide +kernel
theorem dX7_init_87 : decode cX7_init 87 = .ok (.aload_n 1, 1) := by decide +kernel
theorem dX7_init_88 : decode cX7_init 88 = .ok (.iload_n 2, 1) := by decide +kernel
theorem dX7_init_89 : decode cX7_init 89 = .ok (.invokevirtual 46, 3) := by decide +kernel
theorem dX7_init_92 : decode cX7_init 92 = .ok (.ifCond .eq 21, 3) := by decide +kernel
theorem dX7_init_95 : decode cX7_init 95 = .ok (.aload_n 0, 1) := by decide +kernel
theorem dX7_init_96 : decode cX7_init 96 = .ok (.getfield 29, 3) := by decide +kernel
theorem dX7_init_99 : decode cX7_init 99 = .ok (.iload_n 2, 1) := by decide +kernel
theorem dX7_init_100 : decode cX7_init 100 = .ok (.aload_n 1, 1) := by decide +kernel
theorem dX7_init_101 : decode cX7_init 101 = .ok (.getfield 50, 3) := by decide +kernel
theorem dX7_init_104 : decode cX7_init 104 = .ok (.aload_n 1, 1) := by decide +kernel
theorem dX7_init_105 : decode cX7_init 105 = .ok (.getfield 53, 3) := by decide +kernel
theorem dX7_init_108 : decode cX7_init 108 = .ok (.iload_n 2, 1) := by decide +kernel
theorem dX7_init_109 : decode cX7_init 109 = .ok (.iaload, 1) := by decide +kernel
theorem dX7_init_110 : decode cX7_init 110 = .ok (.invokevirtual 56, 3) := by decide +kernel
theorem dX7_init_113 : decode cX7_init 113 = .ok (.aload_n 1, 1) := by decide +kernel
theorem dX7_init_114 : decode cX7_init 114 = .ok (.iload_n 2, 1) := by decide +kernel
theorem dX7_init_115 : decode cX7_init 115 = .ok (.invokevirtual 60, 3) := by decide +kernel
theorem dX7_init_118 : decode cX7_init 118 = .ok (.ifCond .eq 21, 3) := by decide +kernel
theorem dX7_init_121 : decode cX7_init 121 = .ok (.aload_n 0, 1) := by decide +kernel
theorem dX7_init_122 : decode cX7_init 122 = .ok (.getfield 33, 3) := by decide +kernel
theorem dX7_init_125 : decode cX7_init 125 = .ok (.iload_n 2, 1) := by decide +kernel
theorem dX7_init_126 : decode cX7_init 126 = .ok (.aload_n 1, 1) := by decide +kernel
theorem dX7_init_127 : decode cX7_init 127 = .ok (.getfield 63, 3) := by decide +kernel
theorem dX7_init_130 : decode cX7_init 130 = .ok (.aload_n 1, 1) := by decide +kernel
theorem dX7_init_131 : decode cX7_init 131 = .ok (.getfield 66, 3) := by decide +kernel
theorem dX7_init_134 : decode cX7_init 134 = .ok (.iload_n 2, 1) := by decide +kernel
theorem dX7_init_135 : decode cX7_init 135 = .ok (.iaload, 1) := by decide +kernel
theorem dX7_init_136 : decode cX7_init 136 = .ok (.invokevirtual 56, 3) := by decide +kernel
theorem dX7_init_139 : decode cX7_init 139 = .ok (.iinc 2 1, 3) := by decide +kernel
theorem dX7_init_142 : decode cX7_init 142 = .ok (.goto (-84), 3) := by decide +kernel
theorem dX7_init_145 : decode cX7_init 145 = .ok (.return_, 1) := by decide +kernel
theorem dX7_actOf_0 : decode cX7_actOf 0 = .ok (.iload_n 0, 1) := by decide +kernel
theorem dX7_actOf_1 : decode cX7_actOf 1 = .ok (.iconst 1, 1) := by decide +kernel
theorem dX7_actOf_2 : decode cX7_actOf 2 = .ok (.if_icmp .ne 5, 3) := by decide +kernel
theorem dX7_actOf_5 : decode cX7_actOf 5 = .ok (.iconst 2, 1) := by decide +kernel
theorem dX7_actOf_6 : decode cX7_actOf 6 = .ok (.ireturn, 1) := by decide +kernel
theorem dX7_actOf_7 : decode cX7_actOf 7 = .ok (.iload_n 0, 1) := by decide +kernel
theorem dX7_actOf_8 : decode cX7_actOf 8 = .ok (.iconst 2, 1) := by decide +kernel
theorem dX7_actOf_9 : decode cX7_actOf 9 = .ok (.if_icmp .ne 5, 3) := by decide +kernel
theorem dX7_actOf_12 : decode cX7_actOf 12 = .ok (.iconst 3, 1) := by decide +kernel
theorem dX7_actOf_13 : decode cX7_actOf 13 = .ok (.ireturn, 1) := by decide +kernel
theorem dX7_actOf_14 : decode cX7_actOf 14 = .ok (.iload_n 1, 1) := by decide +kernel
theorem dX7_actOf_15 : decode cX7_actOf 15 = .ok (.ifCond .ne 7, 3) := by decide +kernel
theorem dX7_actOf_18 : decode cX7_actOf 18 = .ok (.iconst 0, 1) := by decide +kernel
theorem dX7_actOf_19 : decode cX7_actOf 19 = .ok (.goto 4, 3) := by decide +kernel
theorem dX7_actOf_22 : decode cX7_actOf 22 = .ok (.iconst 1, 1) := by decide +kernel
theorem dX7_actOf_23 : decode cX7_actOf 23 = .ok (.ireturn, 1) := by decide +kernel
theorem dX7_hasOld_0 : decode cX7_hasOld 0 = .ok (.aload_n 0, 1) := by decide +kernel
theorem dX7_hasOld_1 : decode cX7_hasOld 1 = .ok (.getfield 20, 3) := by decide +kernel
theorem dX7_hasOld_4 : decode cX7_hasOld 4 = .ok (.iload_n 1, 1) := by decide +kernel
theorem dX7_hasOld_5 : decode cX7_hasOld 5 = .ok (.iaload, 1) := by decide +kernel
theorem dX7_hasOld_6 : decode cX7_hasOld 6 = .ok (.iconst 3, 1) := by decide +kernel
theorem dX7_hasOld_7 : decode cX7_hasOld 7 = .ok (.if_icmp .eq 7, 3) := by decide +kernel
theorem dX7_hasOld_10 : decode cX7_hasOld 10 = .ok (.iconst 1, 1) := by decide +kernel
theorem dX7_hasOld_11 : decode cX7_hasOld 11 = .ok (.goto 4, 3) := by decide +kernel
theorem dX7_hasOld_14 : decode cX7_hasOld 14 = .ok (.iconst 0, 1) := by decide +kernel
theorem dX7_hasOld_15 : decode cX7_hasOld 15 = .ok (.ireturn, 1) := by decide +kernel
theorem dX7_hasNew_0 : decode cX7_hasNew 0 = .ok (.aload_n 0, 1) := by decide +kernel
theorem dX7_hasNew_1 : decode cX7_hasNew 1 = .ok (.getfield 20, 3) := by decide +kernel
theorem dX7_hasNew_4 : decode cX7_hasNew 4 = .ok (.iload_n 1, 1) := by decide +kernel
theorem dX7_hasNew_5 : decode cX7_hasNew 5 = .ok (.iaload, 1) := by decide +kernel
theorem dX7_hasNew_6 : decode cX7_hasNew 6 = .ok (.iconst 2, 1) := by decide +kernel
theorem dX7_hasNew_7 : decode cX7_hasNew 7 = .ok (.if_icmp .eq 7, 3) := by decide +kernel
theorem dX7_hasNew_10 : decode cX7_hasNew 10 = .ok (.iconst 1, 1) := by decide +kernel
theorem dX7_hasNew_11 : decode cX7_hasNew 11 = .ok (.goto 4, 3) := by decide +kernel
theorem dX7_hasNew_14 : decode cX7_hasNew 14 = .ok (.iconst 0, 1) := by decide +kernel
theorem dX7_hasNew_15 : decode cX7_hasNew 15 = .ok (.ireturn, 1) := by decide +kernel
theorem dX7_actsOf_0 : decode cX7_actsOf 0 = .ok (.iconst 0, 1) := by decide +kernel
theorem dX7_actsOf_1 : decode cX7_actsOf 1 = .ok (.istore_n 2, 1) := by decide +kernel
theorem dX7_actsOf_2 : decode cX7_actsOf 2 = .ok (.iconst 0, 1) := by decide +kernel
theorem dX7_actsOf_3 : decode cX7_actsOf 3 = .ok (.istore_n 3, 1) := by decide +kernel
theorem dX7_actsOf_4 : decode cX7_actsOf 4 = .ok (.iload_n 3, 1) := by decide +kernel
theorem dX7_actsOf_5 : decode cX7_actsOf 5 = .ok (.aload_n 0, 1) := by decide +kernel
theorem dX7_actsOf_6 : decode cX7_actsOf 6 = .ok (.getfield 15, 3) := by decide +kernel
theorem dX7_actsOf_9 : decode cX7_actsOf 9 = .ok (.if_icmp .ge 22, 3) := by decide +kernel
theorem dX7_actsOf_12 : decode cX7_actsOf 12 = .ok (.aload_n 0, 1) := by decide +kernel
theorem dX7_actsOf_13 : decode cX7_actsOf 13 = .ok (.getfield 20, 3) := by decide +kernel
theorem dX7_actsOf_16 : decode cX7_actsOf 16 = .ok (.iload_n 3, 1) := by decide +kernel
theorem dX7_actsOf_17 : decode cX7_actsOf 17 = .ok (.iaload, 1) := by decide +kernel
theorem dX7_actsOf_18 : decode cX7_actsOf 18 = .ok (.iload_n 1, 1) := by decide +kernel
theorem dX7_actsOf_19 : decode cX7_actsOf 19 = .ok (.if_icmp .ne 6, 3) := by decide +kernel
theorem dX7_actsOf_22 : decode cX7_actsOf 22 = .ok (.iinc 2 1, 3) := by decide +kernel
theorem dX7_actsOf_25 : decode cX7_actsOf 25 = .ok (.iinc 3 1, 3) := by decide +kernel
theorem dX7_actsOf_28 : decode cX7_actsOf 28 = .ok (.goto (-24), 3) := by decide +kernel
theorem dX7_actsOf_31 : decode cX7_actsOf 31 = .ok (.iload_n 2, 1) := by decide +kernel
theorem dX7_actsOf_32 : decode cX7_actsOf 32 = .ok (.ireturn, 1) := by decide +kernel
theorem dX7_reverse_0 : decode cX7_reverse 0 = .ok (.aload_n 0, 1) := by decide +kernel
theorem dX7_reverse_1 : decode cX7_reverse 1 = .ok (.getfield 29, 3) := by decide +kernel
theorem dX7_reverse_4 : decode cX7_reverse 4 = .ok (.astore_n 1, 1) := by decide +kernel
theorem dX7_reverse_5 : decode cX7_reverse 5 = .ok (.aload_n 0, 1) := by decide +kernel
theorem dX7_reverse_6 : decode cX7_reverse 6 = .ok (.aload_n 0, 1) := by decide +kernel
theorem dX7_reverse_7 : decode cX7_reverse 7 = .ok (.getfield 33, 3) := by decide +kernel
theorem dX7_reverse_10 : decode cX7_reverse 10 = .ok (.putfield 29, 3) := by decide +kernel
theorem dX7_reverse_13 : decode cX7_reverse 13 = .ok (.aload_n 0, 1) := by decide +kernel
theorem dX7_reverse_14 : decode cX7_reverse 14 = .ok (.aload_n 1, 1) := by decide +kernel
theorem dX7_reverse_15 : decode cX7_reverse 15 = .ok (.putfield 33, 3) := by decide +kernel
theorem dX7_reverse_18 : decode cX7_reverse 18 = .ok (.iconst 0, 1) := by decide +kernel
theorem dX7_reverse_19 : decode cX7_reverse 19 = .ok (.istore_n 2, 1) := by decide +kernel
theorem dX7_reverse_20 : decode cX7_reverse 20 = .ok (.iload_n 2, 1) := by decide +kernel
theorem dX7_reverse_21 : decode cX7_reverse 21 = .ok (.aload_n 0, 1) := by decide +kernel
theorem dX7_reverse_22 : decode cX7_reverse 22 = .ok (.getfield 15, 3) := by decide +kernel
theorem dX7_reverse_25 : decode cX7_reverse 25 = .ok (.if_icmp .ge 46, 3) := by decide +kernel
theorem dX7_reverse_28 : decode cX7_reverse 28 = .ok (.aload_n 0, 1) := by decide +kernel
theorem dX7_reverse_29 : decode cX7_reverse 29 = .ok (.getfield 20, 3) := by decide +kernel
theorem dX7_reverse_32 : decode cX7_reverse 32 = .ok (.iload_n 2, 1) := by decide +kernel
theorem dX7_reverse_33 : decode cX7_reverse 33 = .ok (.iaload, 1) := by decide +kernel
theorem dX7_reverse_34 : decode cX7_reverse 34 = .ok (.iconst 2, 1) := by decide +kernel
theorem dX7_reverse_35 : decode cX7_reverse 35 = .ok (.if_icmp .ne 13, 3) := by decide +kernel
theorem dX7_reverse_38 : decode cX7_reverse 38 = .ok (.aload_n 0, 1) := by decide +kernel
theorem dX7_reverse_39 : decode cX7_reverse 39 = .ok (.getfield 20, 3) := by decide +kernel
theorem dX7_reverse_42 : decode cX7_reverse 42 = .ok (.iload_n 2, 1) := by decide +kernel
theorem dX7_reverse_43 : decode cX7_reverse 43 = .ok (.iconst 3, 1) := by decide +kernel
theorem dX7_reverse_44 : decode cX7_reverse 44 = .ok (.iastore, 1) := by decide +kernel
theorem dX7_reverse_45 : decode cX7_reverse 45 = .ok (.goto 20, 3) := by decide +kernel
theorem dX7_reverse_48 : decode cX7_reverse 48 = .ok (.aload_n 0, 1) := by decide +kernel
theorem dX7_reverse_49 : decode cX7_reverse 49 = .ok (.getfield 20, 3) := by decide +kernel
theorem dX7_reverse_52 : decode cX7_reverse 52 = .ok (.iload_n 2, 1) := by decide +kernel
theorem dX7_reverse_53 : decode cX7_reverse 53 = .ok (.iaload, 1) := by decide +kernel
theorem dX7_reverse_54 : decode cX7_reverse 54 = .ok (.iconst 3, 1) := by decide +kernel
theorem dX7_reverse_55 : decode cX7_reverse 55 = .ok (.if_icmp .ne 10, 3) := by decide +kernel
theorem dX7_reverse_58 : decode cX7_reverse 58 = .ok (.aload_n 0, 1) := by decide +kernel
theorem dX7_reverse_59 : decode cX7_reverse 59 = .ok (.getfield 20, 3) := by decide +kernel
theorem dX7_reverse_62 : decode cX7_reverse 62 = .ok (.iload_n 2, 1) := by decide +kernel
theorem dX7_reverse_63 : decode cX7_reverse 63 = .ok (.iconst 2, 1) := by decide +kernel
theorem dX7_reverse_64 : decode cX7_reverse 64 = .ok (.iastore, 1) := by decide +kernel
theorem dX7_reverse_65 : decode cX7_reverse 65 = .ok (.iinc 2 1, 3) := by decide +kernel
theorem dX7_reverse_68 : decode cX7_reverse 68 = .ok (.goto (-48), 3) := by decide +kernel
theorem dX7_reverse_71 : decode cX7_reverse 71 = .ok (.return_, 1) := by decide +kernel
theorem dX8_init_0 : decode cX8_init 0 = .ok (.aload_n 0, 1) := by decide +kernel
theorem dX8_init_1 : decode cX8_init 1 = .ok (.invokespecial 3, 3) := by decide +kernel
theorem dX8_init_4 : decode cX8_init 4 = .ok (.aload_n 0, 1) := by decide +kernel
theorem dX8_init_5 : decode cX8_init 5 = .ok (.bipush 8, 2) := by decide +kernel
theorem dX8_init_7 : decode cX8_init 7 = .ok (.anewarray 9, 3) := by decide +kernel
theorem dX8_init_10 : decode cX8_init 10 = .ok (.putfield 11, 3) := by decide +kernel
theorem dX8_init_13 : decode cX8_init 13 = .ok (.aload_n 0, 1) := by decide +kernel
theorem dX8_init_14 : decode cX8_init 14 = .ok (.bipush 8, 2) := by decide +kernel
theorem dX8_init_16 : decode cX8_init 16 = .ok (.newarray .boolean, 2) := by decide +kernel
theorem dX8_init_18 : decode cX8_init 18 = .ok (.putfield 17, 3) := by decide +kernel
theorem dX8_init_21 : decode cX8_init 21 = .ok (.return_, 1) := by decide +kernel
theorem dX8_hold_0 : decode cX8_hold 0 = .ok (.aload_n 0, 1) := by decide +kernel
theorem dX8_hold_1 : decode cX8_hold 1 = .ok (.getfield 11, 3) := by decide +kernel
theorem dX8_hold_4 : decode cX8_hold 4 = .ok (.iload_n 1, 1) := by decide +kernel
theorem dX8_hold_5 : decode cX8_hold 5 = .ok (.aload_n 2, 1) := by decide +kernel
theorem dX8_hold_6 : decode cX8_hold 6 = .ok (.aastore, 1) := by decide +kernel
theorem dX8_hold_7 : decode cX8_hold 7 = .ok (.aload_n 0, 1) := by decide +kernel
theorem dX8_hold_8 : decode cX8_hold 8 = .ok (.getfield 17, 3) := by decide +kernel
theorem dX8_hold_11 : decode cX8_hold 11 = .ok (.iload_n 1, 1) := by decide +kernel
theorem dX8_hold_12 : decode cX8_hold 12 = .ok (.iconst 0, 1) := by decide +kernel
theorem dX8_hold_13 : decode cX8_hold 13 = .ok (.bastore, 1) := by decide +kernel
theorem dX8_hold_14 : decode cX8_hold 14 = .ok (.return_, 1) := by decide +kernel
theorem dX8_holdSingle_0 : decode cX8_holdSingle 0 = .ok (.aload_n 0, 1) := by decide +kernel
theorem dX8_holdSingle_1 : decode cX8_holdSingle 1 = .ok (.getfield 11, 3) := by decide +kernel
theorem dX8_holdSingle_4 : decode cX8_holdSingle 4 = .ok (.iload_n 1, 1) := by decide +kernel
theorem dX8_holdSingle_5 : decode cX8_holdSingle 5 = .ok (.aconst_null, 1) := by decide +kernel
theorem dX8_holdSingle_6 : decode cX8_holdSingle 6 = .ok (.aastore, 1) := by decide +kernel
theorem dX8_holdSingle_7 : decode cX8_holdSingle 7 = .ok (.aload_n 0, 1) := by decide +kernel
theorem dX8_holdSingle_8 : decode cX8_holdSingle 8 = .ok (.getfield 17, 3) := by decide +kernel
theorem dX8_holdSingle_11 : decode cX8_holdSingle 11 = .ok (.iload_n 1, 1) := by decide +kernel
theorem dX8_holdSingle_12 : decode cX8_holdSingle 12 = .ok (.iconst 1, 1) := by decide +kernel
theorem dX8_holdSingle_13 : decode cX8_holdSingle 13 = .ok (.bastore, 1) := by decide +kernel
theorem dX8_holdSingle_14 : decode cX8_holdSingle 14 = .ok (.return_, 1) := by decide +kernel
theorem dX8_holdSame_0 : decode cX8_holdSame 0 = .ok (.aload_n 0, 1) := by decide +kernel
theorem dX8_holdSame_1 : decode cX8_holdSame 1 = .ok (.getfield 11, 3) := by decide +kernel
theorem dX8_holdSame_4 : decode cX8_holdSame 4 = .ok (.iload_n 1, 1) := by decide +kernel
theorem dX8_holdSame_5 : decode cX8_holdSame 5 = .ok (.aload_n 0, 1) := by decide +kernel
theorem dX8_holdSame_6 : decode cX8_holdSame 6 = .ok (.getfield 11, 3) := by decide +kernel
theorem dX8_holdSame_9 : decode cX8_holdSame 9 = .ok (.iload_n 2, 1) := by decide +kernel
theorem dX8_holdSame_10 : decode cX8_holdSame 10 = .ok (.aaload, 1) := by decide +kernel
theorem dX8_holdSame_11 : decode cX8_holdSame 11 = .ok (.aastore, 1) := by decide +kernel
theorem dX8_holdSame_12 : decode cX8_holdSame 12 = .ok (.aload_n 0, 1) := by decide +kernel
theorem dX8_holdSame_13 : decode cX8_holdSame 13 = .ok (.getfield 17, 3) := by decide +kernel
theorem dX8_holdSame_16 : decode cX8_holdSame 16 = .ok (.iload_n 1, 1) := by decide +kernel
theorem dX8_holdSame_17 : decode cX8_holdSame 17 = .ok (.aload_n 0, 1) := by decide +kernel
theorem dX8_holdSame_18 : decode cX8_holdSame 18 = .ok (.getfield 17, 3) := by decide +kernel
theorem dX8_holdSame_21 : decode cX8_holdSame 21 = .ok (.iload_n 2, 1) := by decide +kernel
theorem dX8_holdSame_22 : decode cX8_holdSame 22 = .ok (.baload, 1) := by decide +kernel
theorem dX8_holdSame_23 : decode cX8_holdSame 23 = .ok (.bastore, 1) := by decide +kernel
theorem dX8_holdSame_24 : decode cX8_holdSame 24 = .ok (.return_, 1) := by decide +kernel
theorem dX8_faultWithoutArray_0 : decode cX8_faultWithoutArray 0 = .ok (.aload_n 0, 1) := by decide +kernel
theorem dX8_faultWithoutArray_1 : decode cX8_faultWithoutArray 1 = .ok (.getfield 17, 3) := by decide +kernel
theorem dX8_faultWithoutArray_4 : decode cX8_faultWithoutArray 4 = .ok (.iload_n 1, 1) := by decide +kernel
theorem dX8_faultWithoutArray_5 : decode cX8_faultWithoutArray 5 = .ok (.baload, 1) := by decide +kernel
theorem dX8_faultWithoutArray_6 : decode cX8_faultWithoutArray 6 = .ok (.ifCond .eq 7, 3) := by decide +kernel
theorem dX8_faultWithoutArray_9 : decode cX8_faultWithoutArray 9 = .ok (.iconst 2, 1) := by decide +kernel
theorem dX8_faultWithoutArray_10 : decode cX8_faultWithoutArray 10 = .ok (.goto 4, 3) := by decide +kernel
theorem dX8_faultWithoutArray_13 : decode cX8_faultWithoutArray 13 = .ok (.iconst 1, 1) := by decide +kernel
theorem dX8_faultWithoutArray_14 : decode cX8_faultWithoutArray 14 = .ok (.ireturn, 1) := by decide +kernel
theorem dX8_leastHolder_0 : decode cX8_leastHolder 0 = .ok (.iconst 0, 1) := by decide +kernel
theorem dX8_leastHolder_1 : decode cX8_leastHolder 1 = .ok (.istore_n 2, 1) := by decide +kernel
theorem dX8_leastHolder_2 : decode cX8_leastHolder 2 = .ok (.iload_n 2, 1) := by decide +kernel
theorem dX8_leastHolder_3 : decode cX8_leastHolder 3 = .ok (.bipush 7, 2) := by decide +kernel
theorem dX8_leastHolder_5 : decode cX8_leastHolder 5 = .ok (.if_icmp .ge 19, 3) := by decide +kernel
theorem dX8_leastHolder_8 : decode cX8_leastHolder 8 = .ok (.aload_n 0, 1) := by decide +kernel
theorem dX8_leastHolder_9 : decode cX8_leastHolder 9 = .ok (.getfield 11, 3) := by decide +kernel
theorem dX8_leastHolder_12 : decode cX8_leastHolder 12 = .ok (.iload_n 2, 1) := by decide +kernel
theorem dX8_leastHolder_13 : decode cX8_leastHolder 13 = .ok (.aaload, 1) := by decide +kernel
theorem dX8_leastHolder_14 : decode cX8_leastHolder 14 = .ok (.aload_n 1, 1) := by decide +kernel
theorem dX8_leastHolder_15 : decode cX8_leastHolder 15 = .ok (.if_acmp .eq 9, 3) := by decide +kernel
theorem dX8_leastHolder_18 : decode cX8_leastHolder 18 = .ok (.iinc 2 1, 3) := by decide +kernel
theorem dX8_leastHolder_21 : decode cX8_leastHolder 21 = .ok (.goto (-19), 3) := by decide +kernel
theorem dX8_leastHolder_24 : decode cX8_leastHolder 24 = .ok (.iload_n 2, 1) := by decide +kernel
theorem dX8_leastHolder_25 : decode cX8_leastHolder 25 = .ok (.ireturn, 1) := by decide +kernel
theorem dX8_isFirstHolder_0 : decode cX8_isFirstHolder 0 = .ok (.aload_n 0, 1) := by decide +kernel
theorem dX8_isFirstHolder_1 : decode cX8_isFirstHolder 1 = .ok (.getfield 11, 3) := by decide +kernel
theorem dX8_isFirstHolder_4 : decode cX8_isFirstHolder 4 = .ok (.iload_n 1, 1) := by decide +kernel
theorem dX8_isFirstHolder_5 : decode cX8_isFirstHolder 5 = .ok (.aaload, 1) := by decide +kernel
theorem dX8_isFirstHolder_6 : decode cX8_isFirstHolder 6 = .ok (.ifnull 21, 3) := by decide +kernel
theorem dX8_isFirstHolder_9 : decode cX8_isFirstHolder 9 = .ok (.aload_n 0, 1) := by decide +kernel
theorem dX8_isFirstHolder_10 : decode cX8_isFirstHolder 10 = .ok (.aload_n 0, 1) := by decide +kernel
theorem dX8_isFirstHolder_11 : decode cX8_isFirstHolder 11 = .ok (.getfield 11, 3) := by decide +kernel
theorem dX8_isFirstHolder_14 : decode cX8_isFirstHolder 14 = .ok (.iload_n 1, 1) := by decide +kernel
theorem dX8_isFirstHolder_15 : decode cX8_isFirstHolder 15 = .ok (.aaload, 1) := by decide +kernel
theorem dX8_isFirstHolder_16 : decode cX8_isFirstHolder 16 = .ok (.invokevirtual 21, 3) := by decide +kernel
theorem dX8_isFirstHolder_19 : decode cX8_isFirstHolder 19 = .ok (.iload_n 1, 1) := by decide +kernel
theorem dX8_isFirstHolder_20 : decode cX8_isFirstHolder 20 = .ok (.if_icmp .ne 7, 3) := by decide +kernel
theorem dX8_isFirstHolder_23 : decode cX8_isFirstHolder 23 = .ok (.iconst 1, 1) := by decide +kernel
theorem dX8_isFirstHolder_24 : decode cX8_isFirstHolder 24 = .ok (.goto 4, 3) := by decide +kernel
theorem dX8_isFirstHolder_27 : decode cX8_isFirstHolder 27 = .ok (.iconst 0, 1) := by decide +kernel
theorem dX8_isFirstHolder_28 : decode cX8_isFirstHolder 28 = .ok (.ireturn, 1) := by decide +kernel
theorem dX8_copy_0 : decode cX8_copy 0 = .ok (.new 12, 3) := by decide +kernel
theorem dX8_copy_3 : decode cX8_copy 3 = .ok (.dup, 1) := by decide +kernel
theorem dX8_copy_4 : decode cX8_copy 4 = .ok (.invokespecial 25, 3) := by decide +kernel
theorem dX8_copy_7 : decode cX8_copy 7 = .ok (.astore_n 1, 1) := by decide +kernel
theorem dX8_copy_8 : decode cX8_copy 8 = .ok (.iconst 0, 1) := by decide +kernel
theorem dX8_copy_9 : decode cX8_copy 9 = .ok (.istore_n 2, 1) := by decide +kernel
theorem dX8_copy_10 : decode cX8_copy 10 = .ok (.iload_n 2, 1) := by decide +kernel
theorem dX8_copy_11 : decode cX8_copy 11 = .ok (.bipush 8, 2) := by decide +kernel
theorem dX8_copy_13 : decode cX8_copy 13 = .ok (.if_icmp .ge 75, 3) := by decide +kernel
theorem dX8_copy_16 : decode cX8_copy 16 = .ok (.aload_n 0, 1) := by decide +kernel
theorem dX8_copy_17 : decode cX8_copy 17 = .ok (.getfield 17, 3) := by decide +kernel
theorem dX8_copy_20 : decode cX8_copy 20 = .ok (.iload_n 2, 1) := by decide +kernel
theorem dX8_copy_21 : decode cX8_copy 21 = .ok (.baload, 1) := by decide +kernel
theorem dX8_copy_22 : decode cX8_copy 22 = .ok (.ifCond .eq 11, 3) := by decide +kernel
theorem dX8_copy_25 : decode cX8_copy 25 = .ok (.aload_n 1, 1) := by decide +kernel
theorem dX8_copy_26 : decode cX8_copy 26 = .ok (.iload_n 2, 1) := by decide +kernel
theorem dX8_copy_27 : decode cX8_copy 27 = .ok (.invokevirtual 26, 3) := by decide +kernel
theorem dX8_copy_30 : decode cX8_copy 30 = .ok (.goto 52, 3) := by decide +kernel
theorem dX8_copy_33 : decode cX8_copy 33 = .ok (.aload_n 0, 1) := by decide +kernel
theorem dX8_copy_34 : decode cX8_copy 34 = .ok (.iload_n 2, 1) := by decide +kernel
theorem dX8_copy_35 : decode cX8_copy 35 = .ok (.invokevirtual 30, 3) := by decide +kernel
theorem dX8_copy_38 : decode cX8_copy 38 = .ok (.ifCond .eq 20, 3) := by decide +kernel
theorem dX8_copy_41 : decode cX8_copy 41 = .ok (.aload_n 1, 1) := by decide +kernel
theorem dX8_copy_42 : decode cX8_copy 42 = .ok (.iload_n 2, 1) := by decide +kernel
theorem dX8_copy_43 : decode cX8_copy 43 = .ok (.aload_n 0, 1) := by decide +kernel
theorem dX8_copy_44 : decode cX8_copy 44 = .ok (.getfield 11, 3) := by decide +kernel
theorem dX8_copy_47 : decode cX8_copy 47 = .ok (.iload_n 2, 1) := by decide +kernel
theorem dX8_copy_48 : decode cX8_copy 48 = .ok (.aaload, 1) := by decide +kernel
theorem dX8_copy_49 : decode cX8_copy 49 = .ok (.invokevirtual 34, 3) := by decide +kernel
theorem dX8_copy_52 : decode cX8_copy 52 = .ok (.invokevirtual 38, 3) := by decide +kernel
theorem dX8_copy_55 : decode cX8_copy 55 = .ok (.goto 27, 3) := by decide +kernel
theorem dX8_copy_58 : decode cX8_copy 58 = .ok (.aload_n 0, 1) := by decide +kernel
theorem dX8_copy_59 : decode cX8_copy 59 = .ok (.getfield 11, 3) := by decide +kernel
theorem dX8_copy_62 : decode cX8_copy 62 = .ok (.iload_n 2, 1) := by decide +kernel
theorem dX8_copy_63 : decode cX8_copy 63 = .ok (.aaload, 1) := by decide +kernel
theorem dX8_copy_64 : decode cX8_copy 64 = .ok (.ifnull 18, 3) := by decide +kernel
theorem dX8_copy_67 : decode cX8_copy 67 = .ok (.aload_n 1, 1) := by decide +kernel
theorem dX8_copy_68 : decode cX8_copy 68 = .ok (.iload_n 2, 1) := by decide +kernel
theorem dX8_copy_69 : decode cX8_copy 69 = .ok (.aload_n 0, 1) := by decide +kernel
theorem dX8_copy_70 : decode cX8_copy 70 = .ok (.aload_n 0, 1) := by decide +kernel
theorem dX8_copy_71 : decode cX8_copy 71 = .ok (.getfield 11, 3) := by decide +kernel
theorem dX8_copy_74 : decode cX8_copy 74 = .ok (.iload_n 2, 1) := by decide +kernel
theorem dX8_copy_75 : decode cX8_copy 75 = .ok (.aaload, 1) := by decide +kernel
theorem dX8_copy_76 : decode cX8_copy 76 = .ok (.invokevirtual 21, 3) := by decide +kernel
theorem dX8_copy_79 : decode cX8_copy 79 = .ok (.invokevirtual 42, 3) := by decide +kernel
theorem dX8_copy_82 : decode cX8_copy 82 = .ok (.iinc 2 1, 3) := by decide +kernel
theorem dX8_copy_85 : decode cX8_copy 85 = .ok (.goto (-75), 3) := by decide +kernel
theorem dX8_copy_88 : decode cX8_copy 88 = .ok (.aload_n 1, 1) := by decide +kernel
theorem dX8_copy_89 : decode cX8_copy 89 = .ok (.areturn, 1) := by decide +kernel
theorem dX8_holders_0 : decode cX8_holders 0 = .ok (.iconst 0, 1) := by decide +kernel
theorem dX8_holders_1 : decode cX8_holders 1 = .ok (.istore_n 1, 1) := by decide +kernel
theorem dX8_holders_2 : decode cX8_holders 2 = .ok (.iconst 0, 1) := by decide +kernel
theorem dX8_holders_3 : decode cX8_holders 3 = .ok (.istore_n 2, 1) := by decide +kernel
theorem dX8_holders_4 : decode cX8_holders 4 = .ok (.iload_n 2, 1) := by decide +kernel
theorem dX8_holders_5 : decode cX8_holders 5 = .ok (.bipush 8, 2) := by decide +kernel
theorem dX8_holders_7 : decode cX8_holders 7 = .ok (.if_icmp .ge 21, 3) := by decide +kernel
theorem dX8_holders_10 : decode cX8_holders 10 = .ok (.aload_n 0, 1) := by decide +kernel
theorem dX8_holders_11 : decode cX8_holders 11 = .ok (.getfield 11, 3) := by decide +kernel
theorem dX8_holders_14 : decode cX8_holders 14 = .ok (.iload_n 2, 1) := by decide +kernel
theorem dX8_holders_15 : decode cX8_holders 15 = .ok (.aaload, 1) := by decide +kernel
theorem dX8_holders_16 : decode cX8_holders 16 = .ok (.ifnull 6, 3) := by decide +kernel
theorem dX8_holders_19 : decode cX8_holders 19 = .ok (.iinc 1 1, 3) := by decide +kernel
theorem dX8_holders_22 : decode cX8_holders 22 = .ok (.iinc 2 1, 3) := by decide +kernel
theorem dX8_holders_25 : decode cX8_holders 25 = .ok (.goto (-21), 3) := by decide +kernel
theorem dX8_holders_28 : decode cX8_holders 28 = .ok (.iload_n 1, 1) := by decide +kernel
theorem dX8_holders_29 : decode cX8_holders 29 = .ok (.ireturn, 1) := by decide +kernel
theorem dX8_distinct_0 : decode cX8_distinct 0 = .ok (.iconst 0, 1) := by decide +kernel
theorem dX8_distinct_1 : decode cX8_distinct 1 = .ok (.istore_n 1, 1) := by decide +kernel
theorem dX8_distinct_2 : decode cX8_distinct 2 = .ok (.iconst 0, 1) := by decide +kernel
theorem dX8_distinct_3 : decode cX8_distinct 3 = .ok (.istore_n 2, 1) := by decide +kernel
theorem dX8_distinct_4 : decode cX8_distinct 4 = .ok (.iload_n 2, 1) := by decide +kernel
theorem dX8_distinct_5 : decode cX8_distinct 5 = .ok (.bipush 8, 2) := by decide +kernel
theorem dX8_distinct_7 : decode cX8_distinct 7 = .ok (.if_icmp .ge 20, 3) := by decide +kernel
theorem dX8_distinct_10 : decode cX8_distinct 10 = .ok (.aload_n 0, 1) := by decide +kernel
theorem dX8_distinct_11 : decode cX8_distinct 11 = .ok (.iload_n 2, 1) := by decide +kernel
theorem dX8_distinct_12 : decode cX8_distinct 12 = .ok (.invokevirtual 30, 3) := by decide +kernel
theorem dX8_distinct_15 : decode cX8_distinct 15 = .ok (.ifCond .eq 6, 3) := by decide +kernel
theorem dX8_distinct_18 : decode cX8_distinct 18 = .ok (.iinc 1 1, 3) := by decide +kernel
theorem dX8_distinct_21 : decode cX8_distinct 21 = .ok (.iinc 2 1, 3) := by decide +kernel
theorem dX8_distinct_24 : decode cX8_distinct 24 = .ok (.goto (-20), 3) := by decide +kernel
theorem dX8_distinct_27 : decode cX8_distinct 27 = .ok (.iload_n 1, 1) := by decide +kernel
theorem dX8_distinct_28 : decode cX8_distinct 28 = .ok (.ireturn, 1) := by decide +kernel
theorem dX8_distinctCells_0 : decode cX8_distinctCells 0 = .ok (.iconst 0, 1) := by decide +kernel
theorem dX8_distinctCells_1 : decode cX8_distinctCells 1 = .ok (.istore_n 1, 1) := by decide +kernel
theorem dX8_distinctCells_2 : decode cX8_distinctCells 2 = .ok (.iconst 0, 1) := by decide +kernel
theorem dX8_distinctCells_3 : decode cX8_distinctCells 3 = .ok (.istore_n 2, 1) := by decide +kernel
theorem dX8_distinctCells_4 : decode cX8_distinctCells 4 = .ok (.iload_n 2, 1) := by decide +kernel
theorem dX8_distinctCells_5 : decode cX8_distinctCells 5 = .ok (.bipush 8, 2) := by decide +kernel
theorem dX8_distinctCells_7 : decode cX8_distinctCells 7 = .ok (.if_icmp .ge 29, 3) := by decide +kernel
theorem dX8_distinctCells_10 : decode cX8_distinctCells 10 = .ok (.aload_n 0, 1) := by decide +kernel
theorem dX8_distinctCells_11 : decode cX8_distinctCells 11 = .ok (.iload_n 2, 1) := by decide +kernel
theorem dX8_distinctCells_12 : decode cX8_distinctCells 12 = .ok (.invokevirtual 30, 3) := by decide +kernel
theorem dX8_distinctCells_15 : decode cX8_distinctCells 15 = .ok (.ifCond .eq 15, 3) := by decide +kernel
theorem dX8_distinctCells_18 : decode cX8_distinctCells 18 = .ok (.iload_n 1, 1) := by decide +kernel
theorem dX8_distinctCells_19 : decode cX8_distinctCells 19 = .ok (.aload_n 0, 1) := by decide +kernel
theorem dX8_distinctCells_20 : decode cX8_distinctCells 20 = .ok (.getfield 11, 3) := by decide +kernel
theorem dX8_distinctCells_23 : decode cX8_distinctCells 23 = .ok (.iload_n 2, 1) := by decide +kernel
theorem dX8_distinctCells_24 : decode cX8_distinctCells 24 = .ok (.aaload, 1) := by decide +kernel
theorem dX8_distinctCells_25 : decode cX8_distinctCells 25 = .ok (.getfield 46, 3) := by decide +kernel
theorem dX8_distinctCells_28 : decode cX8_distinctCells 28 = .ok (.iadd, 1) := by decide +kernel
theorem dX8_distinctCells_29 : decode cX8_distinctCells 29 = .ok (.istore_n 1, 1) := by decide +kernel
theorem dX8_distinctCells_30 : decode cX8_distinctCells 30 = .ok (.iinc 2 1, 3) := by decide +kernel
theorem dX8_distinctCells_33 : decode cX8_distinctCells 33 = .ok (.goto (-29), 3) := by decide +kernel
theorem dX8_distinctCells_36 : decode cX8_distinctCells 36 = .ok (.iload_n 1, 1) := by decide +kernel
theorem dX8_distinctCells_37 : decode cX8_distinctCells 37 = .ok (.ireturn, 1) := by decide +kernel
theorem dX8_distinctNulls_0 : decode cX8_distinctNulls 0 = .ok (.iconst 0, 1) := by decide +kernel
theorem dX8_distinctNulls_1 : decode cX8_distinctNulls 1 = .ok (.istore_n 1, 1) := by decide +kernel
theorem dX8_distinctNulls_2 : decode cX8_distinctNulls 2 = .ok (.iconst 0, 1) := by decide +kernel
theorem dX8_distinctNulls_3 : decode cX8_distinctNulls 3 = .ok (.istore_n 2, 1) := by decide +kernel
theorem dX8_distinctNulls_4 : decode cX8_distinctNulls 4 = .ok (.iload_n 2, 1) := by decide +kernel
theorem dX8_distinctNulls_5 : decode cX8_distinctNulls 5 = .ok (.bipush 8, 2) := by decide +kernel
theorem dX8_distinctNulls_7 : decode cX8_distinctNulls 7 = .ok (.if_icmp .ge 29, 3) := by decide +kernel
theorem dX8_distinctNulls_10 : decode cX8_distinctNulls 10 = .ok (.aload_n 0, 1) := by decide +kernel
theorem dX8_distinctNulls_11 : decode cX8_distinctNulls 11 = .ok (.iload_n 2, 1) := by decide +kernel
theorem dX8_distinctNulls_12 : decode cX8_distinctNulls 12 = .ok (.invokevirtual 30, 3) := by decide +kernel
theorem dX8_distinctNulls_15 : decode cX8_distinctNulls 15 = .ok (.ifCond .eq 15, 3) := by decide +kernel
theorem dX8_distinctNulls_18 : decode cX8_distinctNulls 18 = .ok (.iload_n 1, 1) := by decide +kernel
theorem dX8_distinctNulls_19 : decode cX8_distinctNulls 19 = .ok (.aload_n 0, 1) := by decide +kernel
theorem dX8_distinctNulls_20 : decode cX8_distinctNulls 20 = .ok (.getfield 11, 3) := by decide +kernel
theorem dX8_distinctNulls_23 : decode cX8_distinctNulls 23 = .ok (.iload_n 2, 1) := by decide +kernel
theorem dX8_distinctNulls_24 : decode cX8_distinctNulls 24 = .ok (.aaload, 1) := by decide +kernel
theorem dX8_distinctNulls_25 : decode cX8_distinctNulls 25 = .ok (.invokevirtual 50, 3) := by decide +kernel
theorem dX8_distinctNulls_28 : decode cX8_distinctNulls 28 = .ok (.iadd, 1) := by decide +kernel
theorem dX8_distinctNulls_29 : decode cX8_distinctNulls 29 = .ok (.istore_n 1, 1) := by decide +kernel
theorem dX8_distinctNulls_30 : decode cX8_distinctNulls 30 = .ok (.iinc 2 1, 3) := by decide +kernel
theorem dX8_distinctNulls_33 : decode cX8_distinctNulls 33 = .ok (.goto (-29), 3) := by decide +kernel
theorem dX8_distinctNulls_36 : decode cX8_distinctNulls 36 = .ok (.iload_n 1, 1) := by decide +kernel
theorem dX8_distinctNulls_37 : decode cX8_distinctNulls 37 = .ok (.ireturn, 1) := by decide +kernel
theorem dX9_init_0 : decode cX9_init 0 = .ok (.aload_n 0, 1) := by decide +kernel
theorem dX9_init_1 : decode cX9_init 1 = .ok (.invokespecial 1, 3) := by decide +kernel
theorem dX9_init_4 : decode cX9_init 4 = .ok (.aload_n 0, 1) := by decide +kernel
theorem dX9_init_5 : decode cX9_init 5 = .ok (.new 7, 3) := by decide +kernel
theorem dX9_init_8 : decode cX9_init 8 = .ok (.dup, 1) := by decide +kernel
theorem dX9_init_9 : decode cX9_init 9 = .ok (.invokespecial 9, 3) := by decide +kernel
theorem dX9_init_12 : decode cX9_init 12 = .ok (.putfield 10, 3) := by decide +kernel
theorem dX9_init_15 : decode cX9_init 15 = .ok (.aload_n 0, 1) := by decide +kernel
theorem dX9_init_16 : decode cX9_init 16 = .ok (.iconst 2, 1) := by decide +kernel
theorem dX9_init_17 : decode cX9_init 17 = .ok (.anewarray 7, 3) := by decide +kernel
theorem dX9_init_20 : decode cX9_init 20 = .ok (.putfield 16, 3) := by decide +kernel
theorem dX9_init_23 : decode cX9_init 23 = .ok (.aload_n 0, 1) := by decide +kernel
theorem dX9_init_24 : decode cX9_init 24 = .ok (.iconst 4, 1) := by decide +kernel
theorem dX9_init_25 : decode cX9_init 25 = .ok (.anewarray 20, 3) := by decide +kernel
theorem dX9_init_28 : decode cX9_init 28 = .ok (.putfield 22, 3) := by decide +kernel
theorem dX9_init_31 : decode cX9_init 31 = .ok (.aload_n 0, 1) := by decide +kernel
theorem dX9_init_32 : decode cX9_init 32 = .ok (.iconst 4, 1) := by decide +kernel
theorem dX9_init_33 : decode cX9_init 33 = .ok (.newarray .int, 2) := by decide +kernel
theorem dX9_init_35 : decode cX9_init 35 = .ok (.dup, 1) := by decide +kernel
theorem dX9_init_36 : decode cX9_init 36 = .ok (.iconst 0, 1) := by decide +kernel
theorem dX9_init_37 : decode cX9_init 37 = .ok (.iconst 0, 1) := by decide +kernel
theorem dX9_init_38 : decode cX9_init 38 = .ok (.iastore, 1) := by decide +kernel
theorem dX9_init_39 : decode cX9_init 39 = .ok (.dup, 1) := by decide +kernel
theorem dX9_init_40 : decode cX9_init 40 = .ok (.iconst 1, 1) := by decide +kernel
theorem dX9_init_41 : decode cX9_init 41 = .ok (.iconst 3, 1) := by decide +kernel
theorem dX9_init_42 : decode cX9_init 42 = .ok (.iastore, 1) := by decide +kernel
theorem dX9_init_43 : decode cX9_init 43 = .ok (.dup, 1) := by decide +kernel
theorem dX9_init_44 : decode cX9_init 44 = .ok (.iconst 2, 1) := by decide +kernel
theorem dX9_init_45 : decode cX9_init 45 = .ok (.iconst 2, 1) := by decide +kernel
theorem dX9_init_46 : decode cX9_init 46 = .ok (.iastore, 1) := by decide +kernel
theorem dX9_init_47 : decode cX9_init 47 = .ok (.dup, 1) := by decide +kernel
theorem dX9_init_48 : decode cX9_init 48 = .ok (.iconst 3, 1) := by decide +kernel
theorem dX9_init_49 : decode cX9_init 49 = .ok (.iconst 1, 1) := by decide +kernel
theorem dX9_init_50 : decode cX9_init 50 = .ok (.iastore, 1) := by decide +kernel
theorem dX9_init_51 : decode cX9_init 51 = .ok (.putfield 26, 3) := by decide +kernel
theorem dX9_init_54 : decode cX9_init 54 = .ok (.aload_n 0, 1) := by decide +kernel
theorem dX9_init_55 : decode cX9_init 55 = .ok (.new 30, 3) := by decide +kernel
theorem dX9_init_58 : decode cX9_init 58 = .ok (.dup, 1) := by decide +kernel
theorem dX9_init_59 : decode cX9_init 59 = .ok (.invokespecial 32, 3) := by decide +kernel
theorem dX9_init_62 : decode cX9_init 62 = .ok (.putfield 33, 3) := by decide +kernel
theorem dX9_init_65 : decode cX9_init 65 = .ok (.aload_n 0, 1) := by decide +kernel
theorem dX9_init_66 : decode cX9_init 66 = .ok (.new 37, 3) := by decide +kernel
theorem dX9_init_69 : decode cX9_init 69 = .ok (.dup, 1) := by decide +kernel
theorem dX9_init_70 : decode cX9_init 70 = .ok (.bipush 9, 2) := by decide +kernel
theorem dX9_init_72 : decode cX9_init 72 = .ok (.iconst 1, 1) := by decide +kernel
theorem dX9_init_73 : decode cX9_init 73 = .ok (.invokespecial 39, 3) := by decide +kernel
theorem dX9_init_76 : decode cX9_init 76 = .ok (.putfield 42, 3) := by decide +kernel
theorem dX9_init_79 : decode cX9_init 79 = .ok (.return_, 1) := by decide +kernel
theorem dX9_record_0 : decode cX9_record 0 = .ok (.iload_n 1, 1) := by decide +kernel
theorem dX9_record_1 : decode cX9_record 1 = .ok (.invokestatic 46, 3) := by decide +kernel
theorem dX9_record_4 : decode cX9_record 4 = .ok (.ifCond .eq 13, 3) := by decide +kernel
theorem dX9_record_7 : decode cX9_record 7 = .ok (.iload_n 2, 1) := by decide +kernel
theorem dX9_record_8 : decode cX9_record 8 = .ok (.iconst 0, 1) := by decide +kernel
theorem dX9_record_9 : decode cX9_record 9 = .ok (.bipush 12, 2) := by decide +kernel
theorem dX9_record_11 : decode cX9_record 11 = .ok (.invokestatic 50, 3) := by decide +kernel
theorem dX9_record_14 : decode cX9_record 14 = .ok (.ifCond .ne 5, 3) := by decide +kernel
theorem dX9_record_17 : decode cX9_record 17 = .ok (.iconst (-1), 1) := by decide +kernel
theorem dX9_record_18 : decode cX9_record 18 = .ok (.ireturn, 1) := by decide +kernel
theorem dX9_record_19 : decode cX9_record 19 = .ok (.iload_n 2, 1) := by decide +kernel
theorem dX9_record_20 : decode cX9_record 20 = .ok (.bipush 12, 2) := by decide +kernel
theorem dX9_record_22 : decode cX9_record 22 = .ok (.if_icmp .ne 14, 3) := by decide +kernel
theorem dX9_record_25 : decode cX9_record 25 = .ok (.aload_n 0, 1) := by decide +kernel
theorem dX9_record_26 : decode cX9_record 26 = .ok (.getfield 10, 3) := by decide +kernel
theorem dX9_record_29 : decode cX9_record 29 = .ok (.iload_n 1, 1) := by decide +kernel
theorem dX9_record_30 : decode cX9_record 30 = .ok (.aconst_null, 1) := by decide +kernel
theorem dX9_record_31 : decode cX9_record 31 = .ok (.invokevirtual 54, 3) := by decide +kernel
theorem dX9_record_34 : decode cX9_record 34 = .ok (.iconst 1, 1) := by decide +kernel
theorem dX9_record_35 : decode cX9_record 35 = .ok (.ireturn, 1) := by decide +kernel
theorem dX9_record_36 : decode cX9_record 36 = .ok (.iload_n 2, 1) := by decide +kernel
theorem dX9_record_37 : decode cX9_record 37 = .ok (.bipush 11, 2) := by decide +kernel
theorem dX9_record_39 : decode cX9_record 39 = .ok (.if_icmp .ne 13, 3) := by decide +kernel
theorem dX9_record_42 : decode cX9_record 42 = .ok (.aload_n 0, 1) := by decide +kernel
theorem dX9_record_43 : decode cX9_record 43 = .ok (.getfield 10, 3) := by decide +kernel
theorem dX9_record_46 : decode cX9_record 46 = .ok (.iload_n 1, 1) := by decide +kernel
theorem dX9_record_47 : decode cX9_record 47 = .ok (.invokevirtual 58, 3) := by decide +kernel
theorem dX9_record_50 : decode cX9_record 50 = .ok (.iconst 1, 1) := by decide +kernel
theorem dX9_record_51 : decode cX9_record 51 = .ok (.ireturn, 1) := by decide +kernel
theorem dX9_record_52 : decode cX9_record 52 = .ok (.iload_n 3, 1) := by decide +kernel
theorem dX9_record_53 : decode cX9_record 53 = .ok (.bipush 20, 2) := by decide +kernel
theorem dX9_record_55 : decode cX9_record 55 = .ok (.if_icmp .le 5, 3) := by decide +kernel
theorem dX9_record_58 : decode cX9_record 58 = .ok (.iconst (-1), 1) := by decide +kernel
theorem dX9_record_59 : decode cX9_record 59 = .ok (.ireturn, 1) := by decide +kernel
theorem dX9_record_60 : decode cX9_record 60 = .ok (.iload_n 3, 1) := by decide +kernel
theorem dX9_record_61 : decode cX9_record 61 = .ok (.ifCond .ge 9, 3) := by decide +kernel
theorem dX9_record_64 : decode cX9_record 64 = .ok (.bipush 6, 2) := by decide +kernel
theorem dX9_record_66 : decode cX9_record 66 = .ok (.invokestatic 62, 3) := by decide +kernel
theorem dX9_record_69 : decode cX9_record 69 = .ok (.ireturn, 1) := by decide +kernel
theorem dX9_record_70 : decode cX9_record 70 = .ok (.aload_n 0, 1) := by decide +kernel
theorem dX9_record_71 : decode cX9_record 71 = .ok (.getfield 10, 3) := by decide +kernel
theorem dX9_record_74 : decode cX9_record 74 = .ok (.iload_n 1, 1) := by decide +kernel
theorem dX9_record_75 : decode cX9_record 75 = .ok (.new 37, 3) := by decide +kernel
theorem dX9_record_78 : decode cX9_record 78 = .ok (.dup, 1) := by decide +kernel
theorem dX9_record_79 : decode cX9_record 79 = .ok (.iload_n 2, 1) := by decide +kernel
theorem dX9_record_80 : decode cX9_record 80 = .ok (.iload_n 3, 1) := by decide +kernel
theorem dX9_record_81 : decode cX9_record 81 = .ok (.invokespecial 39, 3) := by decide +kernel
theorem dX9_record_84 : decode cX9_record 84 = .ok (.invokevirtual 54, 3) := by decide +kernel
theorem dX9_record_87 : decode cX9_record 87 = .ok (.iconst 1, 1) := by decide +kernel
theorem dX9_record_88 : decode cX9_record 88 = .ok (.ireturn, 1) := by decide +kernel
theorem dX9_share_0 : decode cX9_share 0 = .ok (.iload_n 1, 1) := by decide +kernel
theorem dX9_share_1 : decode cX9_share 1 = .ok (.invokestatic 46, 3) := by decide +kernel
theorem dX9_share_4 : decode cX9_share 4 = .ok (.ifCond .eq 10, 3) := by decide +kernel
theorem dX9_share_7 : decode cX9_share 7 = .ok (.iload_n 2, 1) := by decide +kernel
theorem dX9_share_8 : decode cX9_share 8 = .ok (.invokestatic 46, 3) := by decide +kernel
theorem dX9_share_11 : decode cX9_share 11 = .ok (.ifCond .ne 5, 3) := by decide +kernel
theorem dX9_share_14 : decode cX9_share 14 = .ok (.iconst (-1), 1) := by decide +kernel
theorem dX9_share_15 : decode cX9_share 15 = .ok (.ireturn, 1) := by decide +kernel
theorem dX9_share_16 : decode cX9_share 16 = .ok (.aload_n 0, 1) := by decide +kernel
theorem dX9_share_17 : decode cX9_share 17 = .ok (.getfield 10, 3) := by decide +kernel
theorem dX9_share_20 : decode cX9_share 20 = .ok (.iload_n 1, 1) := by decide +kernel
theorem dX9_share_21 : decode cX9_share 21 = .ok (.iload_n 2, 1) := by decide +kernel
theorem dX9_share_22 : decode cX9_share 22 = .ok (.invokevirtual 66, 3) := by decide +kernel
theorem dX9_share_25 : decode cX9_share 25 = .ok (.iconst 1, 1) := by decide +kernel
theorem dX9_share_26 : decode cX9_share 26 = .ok (.ireturn, 1) := by decide +kernel
theorem dX9_kind_0 : decode cX9_kind 0 = .ok (.iload_n 1, 1) := by decide +kernel
theorem dX9_kind_1 : decode cX9_kind 1 = .ok (.invokestatic 46, 3) := by decide +kernel
theorem dX9_kind_4 : decode cX9_kind 4 = .ok (.ifCond .eq 12, 3) := by decide +kernel
theorem dX9_kind_7 : decode cX9_kind 7 = .ok (.iload_n 2, 1) := by decide +kernel
theorem dX9_kind_8 : decode cX9_kind 8 = .ok (.iconst 0, 1) := by decide +kernel
theorem dX9_kind_9 : decode cX9_kind 9 = .ok (.iconst 1, 1) := by decide +kernel
theorem dX9_kind_10 : decode cX9_kind 10 = .ok (.invokestatic 50, 3) := by decide +kernel
theorem dX9_kind_13 : decode cX9_kind 13 = .ok (.ifCond .ne 5, 3) := by decide +kernel
theorem dX9_kind_16 : decode cX9_kind 16 = .ok (.iconst (-1), 1) := by decide +kernel
theorem dX9_kind_17 : decode cX9_kind 17 = .ok (.ireturn, 1) := by decide +kernel
theorem dX9_kind_18 : decode cX9_kind 18 = .ok (.aload_n 0, 1) := by decide +kernel
theorem dX9_kind_19 : decode cX9_kind 19 = .ok (.getfield 10, 3) := by decide +kernel
theorem dX9_kind_22 : decode cX9_kind 22 = .ok (.getfield 69, 3) := by decide +kernel
theorem dX9_kind_25 : decode cX9_kind 25 = .ok (.iload_n 1, 1) := by decide +kernel
theorem dX9_kind_26 : decode cX9_kind 26 = .ok (.aaload, 1) := by decide +kernel
theorem dX9_kind_27 : decode cX9_kind 27 = .ok (.astore_n 3, 1) := by decide +kernel
theorem dX9_kind_28 : decode cX9_kind 28 = .ok (.iload_n 2, 1) := by decide +kernel
theorem dX9_kind_29 : decode cX9_kind 29 = .ok (.iconst 1, 1) := by decide +kernel
theorem dX9_kind_30 : decode cX9_kind 30 = .ok (.if_icmp .ne 21, 3) := by decide +kernel
theorem dX9_kind_33 : decode cX9_kind 33 = .ok (.aload_n 3, 1) := by decide +kernel
theorem dX9_kind_34 : decode cX9_kind 34 = .ok (.ifnonnull 8, 3) := by decide +kernel
theorem dX9_kind_37 : decode cX9_kind 37 = .ok (.bipush (-4), 2) := by decide +kernel
theorem dX9_kind_39 : decode cX9_kind 39 = .ok (.goto 11, 3) := by decide +kernel
theorem dX9_kind_42 : decode cX9_kind 42 = .ok (.aload_n 0, 1) := by decide +kernel
theorem dX9_kind_43 : decode cX9_kind 43 = .ok (.getfield 10, 3) := by decide +kernel
theorem dX9_kind_46 : decode cX9_kind 46 = .ok (.aload_n 3, 1) := by decide +kernel
theorem dX9_kind_47 : decode cX9_kind 47 = .ok (.invokevirtual 73, 3) := by decide +kernel
theorem dX9_kind_50 : decode cX9_kind 50 = .ok (.ireturn, 1) := by decide +kernel
theorem dX9_kind_51 : decode cX9_kind 51 = .ok (.aload_n 3, 1) := by decide +kernel
theorem dX9_kind_52 : decode cX9_kind 52 = .ok (.ifnull 8, 3) := by decide +kernel
theorem dX9_kind_55 : decode cX9_kind 55 = .ok (.aload_n 3, 1) := by decide +kernel
theorem dX9_kind_56 : decode cX9_kind 56 = .ok (.getfield 77, 3) := by decide +kernel
theorem dX9_kind_59 : decode cX9_kind 59 = .ok (.ireturn, 1) := by decide +kernel
theorem dX9_kind_60 : decode cX9_kind 60 = .ok (.aload_n 0, 1) := by decide +kernel
theorem dX9_kind_61 : decode cX9_kind 61 = .ok (.getfield 10, 3) := by decide +kernel
theorem dX9_kind_64 : decode cX9_kind 64 = .ok (.getfield 81, 3) := by decide +kernel
theorem dX9_kind_67 : decode cX9_kind 67 = .ok (.iload_n 1, 1) := by decide +kernel
theorem dX9_kind_68 : decode cX9_kind 68 = .ok (.baload, 1) := by decide +kernel
theorem dX9_kind_69 : decode cX9_kind 69 = .ok (.ifCond .eq 8, 3) := by decide +kernel
theorem dX9_kind_72 : decode cX9_kind 72 = .ok (.bipush 11, 2) := by decide +kernel
theorem dX9_kind_74 : decode cX9_kind 74 = .ok (.goto 5, 3) := by decide +kernel
theorem dX9_kind_77 : decode cX9_kind 77 = .ok (.bipush 12, 2) := by decide +kernel
theorem dX9_kind_79 : decode cX9_kind 79 = .ok (.ireturn, 1) := by decide +kernel
theorem dX9_size_0 : decode cX9_size 0 = .ok (.iload_n 1, 1) := by decide +kernel
theorem dX9_size_1 : decode cX9_size 1 = .ok (.invokestatic 46, 3) := by decide +kernel
theorem dX9_size_4 : decode cX9_size 4 = .ok (.ifCond .ne 5, 3) := by decide +kernel
theorem dX9_size_7 : decode cX9_size 7 = .ok (.iconst (-1), 1) := by decide +kernel
theorem dX9_size_8 : decode cX9_size 8 = .ok (.ireturn, 1) := by decide +kernel
theorem dX9_size_9 : decode cX9_size 9 = .ok (.aload_n 0, 1) := by decide +kernel
theorem dX9_size_10 : decode cX9_size 10 = .ok (.getfield 10, 3) := by decide +kernel
theorem dX9_size_13 : decode cX9_size 13 = .ok (.getfield 69, 3) := by decide +kernel
theorem dX9_size_16 : decode cX9_size 16 = .ok (.iload_n 1, 1) := by decide +kernel
theorem dX9_size_17 : decode cX9_size 17 = .ok (.aaload, 1) := by decide +kernel
theorem dX9_size_18 : decode cX9_size 18 = .ok (.astore_n 2, 1) := by decide +kernel
theorem dX9_size_19 : decode cX9_size 19 = .ok (.aload_n 2, 1) := by decide +kernel
theorem dX9_size_20 : decode cX9_size 20 = .ok (.ifnonnull 17, 3) := by decide +kernel
theorem dX9_size_23 : decode cX9_size 23 = .ok (.aload_n 0, 1) := by decide +kernel
theorem dX9_size_24 : decode cX9_size 24 = .ok (.getfield 10, 3) := by decide +kernel
theorem dX9_size_27 : decode cX9_size 27 = .ok (.iload_n 1, 1) := by decide +kernel
theorem dX9_size_28 : decode cX9_size 28 = .ok (.invokevirtual 85, 3) := by decide +kernel
theorem dX9_size_31 : decode cX9_size 31 = .ok (.invokestatic 62, 3) := by decide +kernel
theorem dX9_size_34 : decode cX9_size 34 = .ok (.goto 7, 3) := by decide +kernel
theorem dX9_size_37 : decode cX9_size 37 = .ok (.aload_n 2, 1) := by decide +kernel
theorem dX9_size_38 : decode cX9_size 38 = .ok (.getfield 88, 3) := by decide +kernel
theorem dX9_size_41 : decode cX9_size 41 = .ok (.ireturn, 1) := by decide +kernel
theorem dX9_ask_0 : decode cX9_ask 0 = .ok (.iload_n 1, 1) := by decide +kernel
theorem dX9_ask_1 : decode cX9_ask 1 = .ok (.invokestatic 46, 3) := by decide +kernel
theorem dX9_ask_4 : decode cX9_ask 4 = .ok (.ifCond .eq 13, 3) := by decide +kernel
theorem dX9_ask_7 : decode cX9_ask 7 = .ok (.iload_n 3, 1) := by decide +kernel
theorem dX9_ask_8 : decode cX9_ask 8 = .ok (.iconst 0, 1) := by decide +kernel
theorem dX9_ask_9 : decode cX9_ask 9 = .ok (.bipush 7, 2) := by decide +kernel
theorem dX9_ask_11 : decode cX9_ask 11 = .ok (.invokestatic 50, 3) := by decide +kernel
theorem dX9_ask_14 : decode cX9_ask 14 = .ok (.ifCond .ne 5, 3) := by decide +kernel
theorem dX9_ask_17 : decode cX9_ask 17 = .ok (.iconst (-1), 1) := by decide +kernel
theorem dX9_ask_18 : decode cX9_ask 18 = .ok (.ireturn, 1) := by decide +kernel
theorem dX9_ask_19 : decode cX9_ask 19 = .ok (.aload_n 0, 1) := by decide +kernel
theorem dX9_ask_20 : decode cX9_ask 20 = .ok (.iload_n 1, 1) := by decide +kernel
theorem dX9_ask_21 : decode cX9_ask 21 = .ok (.iload_n 2, 1) := by decide +kernel
theorem dX9_ask_22 : decode cX9_ask 22 = .ok (.invokevirtual 91, 3) := by decide +kernel
theorem dX9_ask_25 : decode cX9_ask 25 = .ok (.istore 4, 2) := by decide +kernel
theorem dX9_ask_27 : decode cX9_ask 27 = .ok (.iload 4, 2) := by decide +kernel
theorem dX9_ask_29 : decode cX9_ask 29 = .ok (.ifCond .eq 9, 3) := by decide +kernel
theorem dX9_ask_32 : decode cX9_ask 32 = .ok (.iload 4, 2) := by decide +kernel
theorem dX9_ask_34 : decode cX9_ask 34 = .ok (.invokestatic 62, 3) := by decide +kernel
theorem dX9_ask_37 : decode cX9_ask 37 = .ok (.ireturn, 1) := by decide +kernel
theorem dX9_ask_38 : decode cX9_ask 38 = .ok (.aload_n 0, 1) := by decide +kernel
theorem dX9_ask_39 : decode cX9_ask 39 = .ok (.getfield 10, 3) := by decide +kernel
theorem dX9_ask_42 : decode cX9_ask 42 = .ok (.getfield 69, 3) := by decide +kernel
theorem dX9_ask_45 : decode cX9_ask 45 = .ok (.iload_n 1, 1) := by decide +kernel
theorem dX9_ask_46 : decode cX9_ask 46 = .ok (.aaload, 1) := by decide +kernel
theorem dX9_ask_47 : decode cX9_ask 47 = .ok (.astore 5, 2) := by decide +kernel
theorem dX9_ask_49 : decode cX9_ask 49 = .ok (.aload 5, 2) := by decide +kernel
theorem dX9_ask_51 : decode cX9_ask 51 = .ok (.iload_n 3, 1) := by decide +kernel
theorem dX9_ask_52 : decode cX9_ask 52 = .ok (.invokestatic 95, 3) := by decide +kernel
theorem dX9_ask_55 : decode cX9_ask 55 = .ok (.istore 4, 2) := by decide +kernel
theorem dX9_ask_57 : decode cX9_ask 57 = .ok (.iload 4, 2) := by decide +kernel
theorem dX9_ask_59 : decode cX9_ask 59 = .ok (.ifCond .eq 9, 3) := by decide +kernel
theorem dX9_ask_62 : decode cX9_ask 62 = .ok (.iload 4, 2) := by decide +kernel
theorem dX9_ask_64 : decode cX9_ask 64 = .ok (.invokestatic 62, 3) := by decide +kernel
theorem dX9_ask_67 : decode cX9_ask 67 = .ok (.ireturn, 1) := by decide +kernel
theorem dX9_ask_68 : decode cX9_ask 68 = .ok (.aload_n 0, 1) := by decide +kernel
theorem dX9_ask_69 : decode cX9_ask 69 = .ok (.aload 5, 2) := by decide +kernel
theorem dX9_ask_71 : decode cX9_ask 71 = .ok (.iload_n 2, 1) := by decide +kernel
theorem dX9_ask_72 : decode cX9_ask 72 = .ok (.iload_n 3, 1) := by decide +kernel
theorem dX9_ask_73 : decode cX9_ask 73 = .ok (.invokevirtual 99, 3) := by decide +kernel
theorem dX9_ask_76 : decode cX9_ask 76 = .ok (.putfield 103, 3) := by decide +kernel
theorem dX9_ask_79 : decode cX9_ask 79 = .ok (.iconst 1, 1) := by decide +kernel
theorem dX9_ask_80 : decode cX9_ask 80 = .ok (.ireturn, 1) := by decide +kernel
theorem dX9_box_0 : decode cX9_box 0 = .ok (.iload_n 1, 1) := by decide +kernel
theorem dX9_box_1 : decode cX9_box 1 = .ok (.invokestatic 46, 3) := by decide +kernel
theorem dX9_box_4 : decode cX9_box 4 = .ok (.ifCond .ne 5, 3) := by decide +kernel
theorem dX9_box_7 : decode cX9_box 7 = .ok (.iconst (-1), 1) := by decide +kernel
theorem dX9_box_8 : decode cX9_box 8 = .ok (.ireturn, 1) := by decide +kernel
theorem dX9_box_9 : decode cX9_box 9 = .ok (.aload_n 0, 1) := by decide +kernel
theorem dX9_box_10 : decode cX9_box 10 = .ok (.iload_n 1, 1) := by decide +kernel
theorem dX9_box_11 : decode cX9_box 11 = .ok (.iload_n 2, 1) := by decide +kernel
theorem dX9_box_12 : decode cX9_box 12 = .ok (.invokevirtual 91, 3) := by decide +kernel
theorem dX9_box_15 : decode cX9_box 15 = .ok (.istore_n 3, 1) := by decide +kernel
theorem dX9_box_16 : decode cX9_box 16 = .ok (.iload_n 3, 1) := by decide +kernel
theorem dX9_box_17 : decode cX9_box 17 = .ok (.ifCond .eq 8, 3) := by decide +kernel
theorem dX9_box_20 : decode cX9_box 20 = .ok (.iload_n 3, 1) := by decide +kernel
theorem dX9_box_21 : decode cX9_box 21 = .ok (.invokestatic 62, 3) := by decide +kernel
theorem dX9_box_24 : decode cX9_box 24 = .ok (.ireturn, 1) := by decide +kernel
theorem dX9_box_25 : decode cX9_box 25 = .ok (.aload_n 0, 1) := by decide +kernel
theorem dX9_box_26 : decode cX9_box 26 = .ok (.getfield 10, 3) := by decide +kernel
theorem dX9_box_29 : decode cX9_box 29 = .ok (.getfield 69, 3) := by decide +kernel
theorem dX9_box_32 : decode cX9_box 32 = .ok (.iload_n 1, 1) := by decide +kernel
theorem dX9_box_33 : decode cX9_box 33 = .ok (.aaload, 1) := by decide +kernel
theorem dX9_box_34 : decode cX9_box 34 = .ok (.astore 4, 2) := by decide +kernel
theorem dX9_box_36 : decode cX9_box 36 = .ok (.aload 4, 2) := by decide +kernel
theorem dX9_box_38 : decode cX9_box 38 = .ok (.getfield 107, 3) := by decide +kernel
theorem dX9_box_41 : decode cX9_box 41 = .ok (.iload_n 2, 1) := by decide +kernel
theorem dX9_box_42 : decode cX9_box 42 = .ok (.iaload, 1) := by decide +kernel
theorem dX9_box_43 : decode cX9_box 43 = .ok (.istore 5, 2) := by decide +kernel
theorem dX9_box_45 : decode cX9_box 45 = .ok (.aload_n 0, 1) := by decide +kernel
theorem dX9_box_46 : decode cX9_box 46 = .ok (.aload 4, 2) := by decide +kernel
theorem dX9_box_48 : decode cX9_box 48 = .ok (.iload_n 2, 1) := by decide +kernel
theorem dX9_box_49 : decode cX9_box 49 = .ok (.iload 5, 2) := by decide +kernel
theorem dX9_box_51 : decode cX9_box 51 = .ok (.invokevirtual 99, 3) := by decide +kernel
theorem dX9_box_54 : decode cX9_box 54 = .ok (.putfield 103, 3) := by decide +kernel
theorem dX9_box_57 : decode cX9_box 57 = .ok (.iload 5, 2) := by decide +kernel
theorem dX9_box_59 : decode cX9_box 59 = .ok (.ireturn, 1) := by decide +kernel
theorem dX9_got_0 : decode cX9_got 0 = .ok (.aload_n 0, 1) := by decide +kernel
theorem dX9_got_1 : decode cX9_got 1 = .ok (.getfield 103, 3) := by decide +kernel
theorem dX9_got_4 : decode cX9_got 4 = .ok (.lreturn, 1) := by decide +kernel
theorem dX9_put_0 : decode cX9_put 0 = .ok (.iload_n 1, 1) := by decide +kernel
theorem dX9_put_1 : decode cX9_put 1 = .ok (.invokestatic 46, 3) := by decide +kernel
theorem dX9_put_4 : decode cX9_put 4 = .ok (.ifCond .eq 13, 3) := by decide +kernel
theorem dX9_put_7 : decode cX9_put 7 = .ok (.iload_n 3, 1) := by decide +kernel
theorem dX9_put_8 : decode cX9_put 8 = .ok (.iconst 0, 1) := by decide +kernel
theorem dX9_put_9 : decode cX9_put 9 = .ok (.bipush 7, 2) := by decide +kernel
theorem dX9_put_11 : decode cX9_put 11 = .ok (.invokestatic 50, 3) := by decide +kernel
theorem dX9_put_14 : decode cX9_put 14 = .ok (.ifCond .ne 5, 3) := by decide +kernel
theorem dX9_put_17 : decode cX9_put 17 = .ok (.iconst (-1), 1) := by decide +kernel
theorem dX9_put_18 : decode cX9_put 18 = .ok (.ireturn, 1) := by decide +kernel
theorem dX9_put_19 : decode cX9_put 19 = .ok (.aload_n 0, 1) := by decide +kernel
theorem dX9_put_20 : decode cX9_put 20 = .ok (.getfield 42, 3) := by decide +kernel
theorem dX9_put_23 : decode cX9_put 23 = .ok (.iconst 0, 1) := by decide +kernel
theorem dX9_put_24 : decode cX9_put 24 = .ok (.iload_n 3, 1) := by decide +kernel
theorem dX9_put_25 : decode cX9_put 25 = .ok (.iload 4, 2) := by decide +kernel
theorem dX9_put_27 : decode cX9_put 27 = .ok (.invokevirtual 110, 3) := by decide +kernel
theorem dX9_put_30 : decode cX9_put 30 = .ok (.aload_n 0, 1) := by decide +kernel
theorem dX9_put_31 : decode cX9_put 31 = .ok (.iload_n 1, 1) := by decide +kernel
theorem dX9_put_32 : decode cX9_put 32 = .ok (.iload_n 2, 1) := by decide +kernel
theorem dX9_put_33 : decode cX9_put 33 = .ok (.invokevirtual 114, 3) := by decide +kernel
theorem dX9_put_36 : decode cX9_put 36 = .ok (.istore 5, 2) := by decide +kernel
theorem dX9_put_38 : decode cX9_put 38 = .ok (.iload 5, 2) := by decide +kernel
theorem dX9_put_40 : decode cX9_put 40 = .ok (.ifCond .ne 7, 3) := by decide +kernel
theorem dX9_put_43 : decode cX9_put 43 = .ok (.iconst 1, 1) := by decide +kernel
theorem dX9_put_44 : decode cX9_put 44 = .ok (.goto 8, 3) := by decide +kernel
theorem dX9_put_47 : decode cX9_put 47 = .ok (.iload 5, 2) := by decide +kernel
theorem dX9_put_49 : decode cX9_put 49 = .ok (.invokestatic 62, 3) := by decide +kernel
theorem dX9_put_52 : decode cX9_put 52 = .ok (.ireturn, 1) := by decide +kernel
theorem dX9_lay_0 : decode cX9_lay 0 = .ok (.iload_n 1, 1) := by decide +kernel
theorem dX9_lay_1 : decode cX9_lay 1 = .ok (.invokestatic 46, 3) := by decide +kernel
theorem dX9_lay_4 : decode cX9_lay 4 = .ok (.ifCond .eq 13, 3) := by decide +kernel
theorem dX9_lay_7 : decode cX9_lay 7 = .ok (.iload_n 3, 1) := by decide +kernel
theorem dX9_lay_8 : decode cX9_lay 8 = .ok (.iconst 0, 1) := by decide +kernel
theorem dX9_lay_9 : decode cX9_lay 9 = .ok (.bipush 10, 2) := by decide +kernel
theorem dX9_lay_11 : decode cX9_lay 11 = .ok (.invokestatic 50, 3) := by decide +kernel
theorem dX9_lay_14 : decode cX9_lay 14 = .ok (.ifCond .ne 5, 3) := by decide +kernel
theorem dX9_lay_17 : decode cX9_lay 17 = .ok (.iconst (-1), 1) := by decide +kernel
theorem dX9_lay_18 : decode cX9_lay 18 = .ok (.ireturn, 1) := by decide +kernel
theorem dX9_lay_19 : decode cX9_lay 19 = .ok (.aload_n 0, 1) := by decide +kernel
theorem dX9_lay_20 : decode cX9_lay 20 = .ok (.getfield 42, 3) := by decide +kernel
theorem dX9_lay_23 : decode cX9_lay 23 = .ok (.iconst 0, 1) := by decide +kernel
theorem dX9_lay_24 : decode cX9_lay 24 = .ok (.iload_n 3, 1) := by decide +kernel
theorem dX9_lay_25 : decode cX9_lay 25 = .ok (.iload 4, 2) := by decide +kernel
theorem dX9_lay_27 : decode cX9_lay 27 = .ok (.invokevirtual 110, 3) := by decide +kernel
theorem dX9_lay_30 : decode cX9_lay 30 = .ok (.aload_n 0, 1) := by decide +kernel
theorem dX9_lay_31 : decode cX9_lay 31 = .ok (.iload_n 1, 1) := by decide +kernel
theorem dX9_lay_32 : decode cX9_lay 32 = .ok (.iload_n 2, 1) := by decide +kernel
theorem dX9_lay_33 : decode cX9_lay 33 = .ok (.aload_n 0, 1) := by decide +kernel
theorem dX9_lay_34 : decode cX9_lay 34 = .ok (.getfield 42, 3) := by decide +kernel
theorem dX9_lay_37 : decode cX9_lay 37 = .ok (.iconst 0, 1) := by decide +kernel
theorem dX9_lay_38 : decode cX9_lay 38 = .ok (.invokevirtual 117, 3) := by decide +kernel
theorem dX9_lay_41 : decode cX9_lay 41 = .ok (.istore 5, 2) := by decide +kernel
theorem dX9_lay_43 : decode cX9_lay 43 = .ok (.iload 5, 2) := by decide +kernel
theorem dX9_lay_45 : decode cX9_lay 45 = .ok (.ifCond .ne 7, 3) := by decide +kernel
theorem dX9_lay_48 : decode cX9_lay 48 = .ok (.iconst 1, 1) := by decide +kernel
theorem dX9_lay_49 : decode cX9_lay 49 = .ok (.goto 8, 3) := by decide +kernel
theorem dX9_lay_52 : decode cX9_lay 52 = .ok (.iload 5, 2) := by decide +kernel
theorem dX9_lay_54 : decode cX9_lay 54 = .ok (.invokestatic 62, 3) := by decide +kernel
theorem dX9_lay_57 : decode cX9_lay 57 = .ok (.ireturn, 1) := by decide +kernel
theorem dX9_fill_0 : decode cX9_fill 0 = .ok (.iload_n 1, 1) := by decide +kernel
theorem dX9_fill_1 : decode cX9_fill 1 = .ok (.invokestatic 46, 3) := by decide +kernel
theorem dX9_fill_4 : decode cX9_fill 4 = .ok (.ifCond .eq 24, 3) := by decide +kernel
theorem dX9_fill_7 : decode cX9_fill 7 = .ok (.iload_n 3, 1) := by decide +kernel
theorem dX9_fill_8 : decode cX9_fill 8 = .ok (.iconst 0, 1) := by decide +kernel
theorem dX9_fill_9 : decode cX9_fill 9 = .ok (.bipush 20, 2) := by decide +kernel
theorem dX9_fill_11 : decode cX9_fill 11 = .ok (.invokestatic 50, 3) := by decide +kernel
theorem dX9_fill_14 : decode cX9_fill 14 = .ok (.ifCond .eq 14, 3) := by decide +kernel
theorem dX9_fill_17 : decode cX9_fill 17 = .ok (.iload 4, 2) := by decide +kernel
theorem dX9_fill_19 : decode cX9_fill 19 = .ok (.iconst 0, 1) := by decide +kernel
theorem dX9_fill_20 : decode cX9_fill 20 = .ok (.bipush 7, 2) := by decide +kernel
theorem dX9_fill_22 : decode cX9_fill 22 = .ok (.invokestatic 50, 3) := by decide +kernel
theorem dX9_fill_25 : decode cX9_fill 25 = .ok (.ifCond .ne 5, 3) := by decide +kernel
theorem dX9_fill_28 : decode cX9_fill 28 = .ok (.iconst (-1), 1) := by decide +kernel
theorem dX9_fill_29 : decode cX9_fill 29 = .ok (.ireturn, 1) := by decide +kernel
theorem dX9_fill_30 : decode cX9_fill 30 = .ok (.aload_n 0, 1) := by decide +kernel
theorem dX9_fill_31 : decode cX9_fill 31 = .ok (.getfield 42, 3) := by decide +kernel
theorem dX9_fill_34 : decode cX9_fill 34 = .ok (.iconst 0, 1) := by decide +kernel
theorem dX9_fill_35 : decode cX9_fill 35 = .ok (.iload 4, 2) := by decide +kernel
theorem dX9_fill_37 : decode cX9_fill 37 = .ok (.iload 5, 2) := by decide +kernel
theorem dX9_fill_39 : decode cX9_fill 39 = .ok (.invokevirtual 110, 3) := by decide +kernel
theorem dX9_fill_42 : decode cX9_fill 42 = .ok (.aload_n 0, 1) := by decide +kernel
theorem dX9_fill_43 : decode cX9_fill 43 = .ok (.iconst 0, 1) := by decide +kernel
theorem dX9_fill_44 : decode cX9_fill 44 = .ok (.putfield 121, 3) := by decide +kernel
theorem dX9_fill_47 : decode cX9_fill 47 = .ok (.iconst 0, 1) := by decide +kernel
theorem dX9_fill_48 : decode cX9_fill 48 = .ok (.istore 6, 2) := by decide +kernel
theorem dX9_fill_50 : decode cX9_fill 50 = .ok (.iload 6, 2) := by decide +kernel
theorem dX9_fill_52 : decode cX9_fill 52 = .ok (.iload_n 3, 1) := by decide +kernel
theorem dX9_fill_53 : decode cX9_fill 53 = .ok (.if_icmp .ge 32, 3) := by decide +kernel
theorem dX9_fill_56 : decode cX9_fill 56 = .ok (.aload_n 0, 1) := by decide +kernel
theorem dX9_fill_57 : decode cX9_fill 57 = .ok (.aload_n 0, 1) := by decide +kernel
theorem dX9_fill_58 : decode cX9_fill 58 = .ok (.iload_n 1, 1) := by decide +kernel
theorem dX9_fill_59 : decode cX9_fill 59 = .ok (.iload_n 2, 1) := by decide +kernel
theorem dX9_fill_60 : decode cX9_fill 60 = .ok (.iload 6, 2) := by decide +kernel
theorem dX9_fill_62 : decode cX9_fill 62 = .ok (.iadd, 1) := by decide +kernel
theorem dX9_fill_63 : decode cX9_fill 63 = .ok (.invokevirtual 114, 3) := by decide +kernel
theorem dX9_fill_66 : decode cX9_fill 66 = .ok (.putfield 121, 3) := by decide +kernel
theorem dX9_fill_69 : decode cX9_fill 69 = .ok (.aload_n 0, 1) := by decide +kernel
theorem dX9_fill_70 : decode cX9_fill 70 = .ok (.getfield 121, 3) := by decide +kernel
theorem dX9_fill_73 : decode cX9_fill 73 = .ok (.ifCond .eq 6, 3) := by decide +kernel
theorem dX9_fill_76 : decode cX9_fill 76 = .ok (.iload 6, 2) := by decide +kernel
theorem dX9_fill_78 : decode cX9_fill 78 = .ok (.ireturn, 1) := by decide +kernel
theorem dX9_fill_79 : decode cX9_fill 79 = .ok (.iinc 6 1, 3) := by decide +kernel
theorem dX9_fill_82 : decode cX9_fill 82 = .ok (.goto (-32), 3) := by decide +kernel
theorem dX9_fill_85 : decode cX9_fill 85 = .ok (.iload_n 3, 1) := by decide +kernel
theorem dX9_fill_86 : decode cX9_fill 86 = .ok (.ireturn, 1) := by decide +kernel
theorem dX9_move_0 : decode cX9_move 0 = .ok (.iload_n 1, 1) := by decide +kernel
theorem dX9_move_1 : decode cX9_move 1 = .ok (.invokestatic 46, 3) := by decide +kernel
theorem dX9_move_4 : decode cX9_move 4 = .ok (.ifCond .eq 21, 3) := by decide +kernel
theorem dX9_move_7 : decode cX9_move 7 = .ok (.iload_n 3, 1) := by decide +kernel
theorem dX9_move_8 : decode cX9_move 8 = .ok (.invokestatic 46, 3) := by decide +kernel
theorem dX9_move_11 : decode cX9_move 11 = .ok (.ifCond .eq 14, 3) := by decide +kernel
theorem dX9_move_14 : decode cX9_move 14 = .ok (.iload 5, 2) := by decide +kernel
theorem dX9_move_16 : decode cX9_move 16 = .ok (.iconst 0, 1) := by decide +kernel
theorem dX9_move_17 : decode cX9_move 17 = .ok (.bipush 20, 2) := by decide +kernel
theorem dX9_move_19 : decode cX9_move 19 = .ok (.invokestatic 50, 3) := by decide +kernel
theorem dX9_move_22 : decode cX9_move 22 = .ok (.ifCond .ne 5, 3) := by decide +kernel
theorem dX9_move_25 : decode cX9_move 25 = .ok (.iconst (-1), 1) := by decide +kernel
theorem dX9_move_26 : decode cX9_move 26 = .ok (.ireturn, 1) := by decide +kernel
theorem dX9_move_27 : decode cX9_move 27 = .ok (.aload_n 0, 1) := by decide +kernel
theorem dX9_move_28 : decode cX9_move 28 = .ok (.iconst 0, 1) := by decide +kernel
theorem dX9_move_29 : decode cX9_move 29 = .ok (.putfield 121, 3) := by decide +kernel
theorem dX9_move_32 : decode cX9_move 32 = .ok (.iconst 0, 1) := by decide +kernel
theorem dX9_move_33 : decode cX9_move 33 = .ok (.istore 6, 2) := by decide +kernel
theorem dX9_move_35 : decode cX9_move 35 = .ok (.iload 6, 2) := by decide +kernel
theorem dX9_move_37 : decode cX9_move 37 = .ok (.iload 5, 2) := by decide +kernel
theorem dX9_move_39 : decode cX9_move 39 = .ok (.if_icmp .ge 67, 3) := by decide +kernel
theorem dX9_move_42 : decode cX9_move 42 = .ok (.aload_n 0, 1) := by decide +kernel
theorem dX9_move_43 : decode cX9_move 43 = .ok (.aload_n 0, 1) := by decide +kernel
theorem dX9_move_44 : decode cX9_move 44 = .ok (.iload_n 3, 1) := by decide +kernel
theorem dX9_move_45 : decode cX9_move 45 = .ok (.iload 4, 2) := by decide +kernel
theorem dX9_move_47 : decode cX9_move 47 = .ok (.iload 6, 2) := by decide +kernel
theorem dX9_move_49 : decode cX9_move 49 = .ok (.iadd, 1) := by decide +kernel
theorem dX9_move_50 : decode cX9_move 50 = .ok (.invokevirtual 91, 3) := by decide +kernel
theorem dX9_move_53 : decode cX9_move 53 = .ok (.putfield 121, 3) := by decide +kernel
theorem dX9_move_56 : decode cX9_move 56 = .ok (.aload_n 0, 1) := by decide +kernel
theorem dX9_move_57 : decode cX9_move 57 = .ok (.getfield 121, 3) := by decide +kernel
theorem dX9_move_60 : decode cX9_move 60 = .ok (.ifCond .ne 30, 3) := by decide +kernel
theorem dX9_move_63 : decode cX9_move 63 = .ok (.aload_n 0, 1) := by decide +kernel
theorem dX9_move_64 : decode cX9_move 64 = .ok (.aload_n 0, 1) := by decide +kernel
theorem dX9_move_65 : decode cX9_move 65 = .ok (.iload_n 1, 1) := by decide +kernel
theorem dX9_move_66 : decode cX9_move 66 = .ok (.iload_n 2, 1) := by decide +kernel
theorem dX9_move_67 : decode cX9_move 67 = .ok (.iload 6, 2) := by decide +kernel
theorem dX9_move_69 : decode cX9_move 69 = .ok (.iadd, 1) := by decide +kernel
theorem dX9_move_70 : decode cX9_move 70 = .ok (.aload_n 0, 1) := by decide +kernel
theorem dX9_move_71 : decode cX9_move 71 = .ok (.getfield 10, 3) := by decide +kernel
theorem dX9_move_74 : decode cX9_move 74 = .ok (.getfield 69, 3) := by decide +kernel
theorem dX9_move_77 : decode cX9_move 77 = .ok (.iload_n 3, 1) := by decide +kernel
theorem dX9_move_78 : decode cX9_move 78 = .ok (.aaload, 1) := by decide +kernel
theorem dX9_move_79 : decode cX9_move 79 = .ok (.iload 4, 2) := by decide +kernel
theorem dX9_move_81 : decode cX9_move 81 = .ok (.iload 6, 2) := by decide +kernel
theorem dX9_move_83 : decode cX9_move 83 = .ok (.iadd, 1) := by decide +kernel
theorem dX9_move_84 : decode cX9_move 84 = .ok (.invokevirtual 117, 3) := by decide +kernel
theorem dX9_move_87 : decode cX9_move 87 = .ok (.putfield 121, 3) := by decide +kernel
theorem dX9_move_90 : decode cX9_move 90 = .ok (.aload_n 0, 1) := by decide +kernel
theorem dX9_move_91 : decode cX9_move 91 = .ok (.getfield 121, 3) := by decide +kernel
theorem dX9_move_94 : decode cX9_move 94 = .ok (.ifCond .eq 6, 3) := by decide +kernel
theorem dX9_move_97 : decode cX9_move 97 = .ok (.iload 6, 2) := by decide +kernel
theorem dX9_move_99 : decode cX9_move 99 = .ok (.ireturn, 1) := by decide +kernel
theorem dX9_move_100 : decode cX9_move 100 = .ok (.iinc 6 1, 3) := by decide +kernel
theorem dX9_move_103 : decode cX9_move 103 = .ok (.goto (-68), 3) := by decide +kernel
theorem dX9_move_106 : decode cX9_move 106 = .ok (.iload 5, 2) := by decide +kernel
theorem dX9_move_108 : decode cX9_move 108 = .ok (.ireturn, 1) := by decide +kernel
theorem dX9_torn_0 : decode cX9_torn 0 = .ok (.aload_n 0, 1) := by decide +kernel
theorem dX9_torn_1 : decode cX9_torn 1 = .ok (.getfield 121, 3) := by decide +kernel
theorem dX9_torn_4 : decode cX9_torn 4 = .ok (.ireturn, 1) := by decide +kernel
theorem dX9_sum_0 : decode cX9_sum 0 = .ok (.iload_n 1, 1) := by decide +kernel
theorem dX9_sum_1 : decode cX9_sum 1 = .ok (.invokestatic 46, 3) := by decide +kernel
theorem dX9_sum_4 : decode cX9_sum 4 = .ok (.ifCond .eq 13, 3) := by decide +kernel
theorem dX9_sum_7 : decode cX9_sum 7 = .ok (.iload_n 2, 1) := by decide +kernel
theorem dX9_sum_8 : decode cX9_sum 8 = .ok (.iconst 1, 1) := by decide +kernel
theorem dX9_sum_9 : decode cX9_sum 9 = .ok (.bipush 7, 2) := by decide +kernel
theorem dX9_sum_11 : decode cX9_sum 11 = .ok (.invokestatic 50, 3) := by decide +kernel
theorem dX9_sum_14 : decode cX9_sum 14 = .ok (.ifCond .ne 5, 3) := by decide +kernel
theorem dX9_sum_17 : decode cX9_sum 17 = .ok (.iconst (-1), 1) := by decide +kernel
theorem dX9_sum_18 : decode cX9_sum 18 = .ok (.ireturn, 1) := by decide +kernel
theorem dX9_sum_19 : decode cX9_sum 19 = .ok (.aload_n 0, 1) := by decide +kernel
theorem dX9_sum_20 : decode cX9_sum 20 = .ok (.getfield 10, 3) := by decide +kernel
theorem dX9_sum_23 : decode cX9_sum 23 = .ok (.getfield 69, 3) := by decide +kernel
theorem dX9_sum_26 : decode cX9_sum 26 = .ok (.iload_n 1, 1) := by decide +kernel
theorem dX9_sum_27 : decode cX9_sum 27 = .ok (.aaload, 1) := by decide +kernel
theorem dX9_sum_28 : decode cX9_sum 28 = .ok (.astore_n 3, 1) := by decide +kernel
theorem dX9_sum_29 : decode cX9_sum 29 = .ok (.aload_n 3, 1) := by decide +kernel
theorem dX9_sum_30 : decode cX9_sum 30 = .ok (.ifnonnull 15, 3) := by decide +kernel
theorem dX9_sum_33 : decode cX9_sum 33 = .ok (.aload_n 0, 1) := by decide +kernel
theorem dX9_sum_34 : decode cX9_sum 34 = .ok (.getfield 10, 3) := by decide +kernel
theorem dX9_sum_37 : decode cX9_sum 37 = .ok (.iload_n 1, 1) := by decide +kernel
theorem dX9_sum_38 : decode cX9_sum 38 = .ok (.invokevirtual 85, 3) := by decide +kernel
theorem dX9_sum_41 : decode cX9_sum 41 = .ok (.invokestatic 62, 3) := by decide +kernel
theorem dX9_sum_44 : decode cX9_sum 44 = .ok (.ireturn, 1) := by decide +kernel
theorem dX9_sum_45 : decode cX9_sum 45 = .ok (.aload_n 3, 1) := by decide +kernel
theorem dX9_sum_46 : decode cX9_sum 46 = .ok (.getfield 88, 3) := by decide +kernel
theorem dX9_sum_49 : decode cX9_sum 49 = .ok (.ifCond .ne 7, 3) := by decide +kernel
theorem dX9_sum_52 : decode cX9_sum 52 = .ok (.iconst 0, 1) := by decide +kernel
theorem dX9_sum_53 : decode cX9_sum 53 = .ok (.goto 8, 3) := by decide +kernel
theorem dX9_sum_56 : decode cX9_sum 56 = .ok (.aload_n 3, 1) := by decide +kernel
theorem dX9_sum_57 : decode cX9_sum 57 = .ok (.iload_n 2, 1) := by decide +kernel
theorem dX9_sum_58 : decode cX9_sum 58 = .ok (.invokestatic 95, 3) := by decide +kernel
theorem dX9_sum_61 : decode cX9_sum 61 = .ok (.istore 4, 2) := by decide +kernel
theorem dX9_sum_63 : decode cX9_sum 63 = .ok (.iload 4, 2) := by decide +kernel
theorem dX9_sum_65 : decode cX9_sum 65 = .ok (.ifCond .eq 9, 3) := by decide +kernel
theorem dX9_sum_68 : decode cX9_sum 68 = .ok (.iload 4, 2) := by decide +kernel
theorem dX9_sum_70 : decode cX9_sum 70 = .ok (.invokestatic 62, 3) := by decide +kernel
theorem dX9_sum_73 : decode cX9_sum 73 = .ok (.ireturn, 1) := by decide +kernel
theorem dX9_sum_74 : decode cX9_sum 74 = .ok (.aload_n 0, 1) := by decide +kernel
theorem dX9_sum_75 : decode cX9_sum 75 = .ok (.aload_n 3, 1) := by decide +kernel
theorem dX9_sum_76 : decode cX9_sum 76 = .ok (.iload_n 2, 1) := by decide +kernel
theorem dX9_sum_77 : decode cX9_sum 77 = .ok (.invokevirtual 124, 3) := by decide +kernel
theorem dX9_sum_80 : decode cX9_sum 80 = .ok (.putfield 103, 3) := by decide +kernel
theorem dX9_sum_83 : decode cX9_sum 83 = .ok (.iconst 1, 1) := by decide +kernel
theorem dX9_sum_84 : decode cX9_sum 84 = .ok (.ireturn, 1) := by decide +kernel
theorem dX9_rate_0 : decode cX9_rate 0 = .ok (.iload_n 1, 1) := by decide +kernel
theorem dX9_rate_1 : decode cX9_rate 1 = .ok (.iconst 0, 1) := by decide +kernel
theorem dX9_rate_2 : decode cX9_rate 2 = .ok (.iconst 3, 1) := by decide +kernel
theorem dX9_rate_3 : decode cX9_rate 3 = .ok (.invokestatic 50, 3) := by decide +kernel
theorem dX9_rate_6 : decode cX9_rate 6 = .ok (.ifCond .ne 5, 3) := by decide +kernel
theorem dX9_rate_9 : decode cX9_rate 9 = .ok (.iconst (-1), 1) := by decide +kernel
theorem dX9_rate_10 : decode cX9_rate 10 = .ok (.ireturn, 1) := by decide +kernel
theorem dX9_rate_11 : decode cX9_rate 11 = .ok (.iload_n 1, 1) := by decide +kernel
theorem dX9_rate_12 : decode cX9_rate 12 = .ok (.iconst 1, 1) := by decide +kernel
theorem dX9_rate_13 : decode cX9_rate 13 = .ok (.if_icmp .eq 8, 3) := by decide +kernel
theorem dX9_rate_16 : decode cX9_rate 16 = .ok (.iload_n 1, 1) := by decide +kernel
theorem dX9_rate_17 : decode cX9_rate 17 = .ok (.iconst 2, 1) := by decide +kernel
theorem dX9_rate_18 : decode cX9_rate 18 = .ok (.if_icmp .ne 7, 3) := by decide +kernel
theorem dX9_rate_21 : decode cX9_rate 21 = .ok (.iconst 1, 1) := by decide +kernel
theorem dX9_rate_22 : decode cX9_rate 22 = .ok (.goto 4, 3) := by decide +kernel
theorem dX9_rate_25 : decode cX9_rate 25 = .ok (.iconst 0, 1) := by decide +kernel
theorem dX9_rate_26 : decode cX9_rate 26 = .ok (.istore_n 3, 1) := by decide +kernel
theorem dX9_rate_27 : decode cX9_rate 27 = .ok (.iload_n 1, 1) := by decide +kernel
theorem dX9_rate_28 : decode cX9_rate 28 = .ok (.ifCond .ne 8, 3) := by decide +kernel
theorem dX9_rate_31 : decode cX9_rate 31 = .ok (.bipush 99, 2) := by decide +kernel
theorem dX9_rate_33 : decode cX9_rate 33 = .ok (.goto 5, 3) := by decide +kernel
theorem dX9_rate_36 : decode cX9_rate 36 = .ok (.bipush 9, 2) := by decide +kernel
theorem dX9_rate_38 : decode cX9_rate 38 = .ok (.istore 4, 2) := by decide +kernel
theorem dX9_rate_40 : decode cX9_rate 40 = .ok (.iload_n 2, 1) := by decide +kernel
theorem dX9_rate_41 : decode cX9_rate 41 = .ok (.iload_n 3, 1) := by decide +kernel
theorem dX9_rate_42 : decode cX9_rate 42 = .ok (.iload 4, 2) := by decide +kernel
theorem dX9_rate_44 : decode cX9_rate 44 = .ok (.invokestatic 50, 3) := by decide +kernel
theorem dX9_rate_47 : decode cX9_rate 47 = .ok (.ifCond .ne 5, 3) := by decide +kernel
theorem dX9_rate_50 : decode cX9_rate 50 = .ok (.iconst (-1), 1) := by decide +kernel
theorem dX9_rate_51 : decode cX9_rate 51 = .ok (.ireturn, 1) := by decide +kernel
theorem dX9_rate_52 : decode cX9_rate 52 = .ok (.aload_n 0, 1) := by decide +kernel
theorem dX9_rate_53 : decode cX9_rate 53 = .ok (.getfield 26, 3) := by decide +kernel
theorem dX9_rate_56 : decode cX9_rate 56 = .ok (.iload_n 1, 1) := by decide +kernel
theorem dX9_rate_57 : decode cX9_rate 57 = .ok (.iaload, 1) := by decide +kernel
theorem dX9_rate_58 : decode cX9_rate 58 = .ok (.istore 5, 2) := by decide +kernel
theorem dX9_rate_60 : decode cX9_rate 60 = .ok (.aload_n 0, 1) := by decide +kernel
theorem dX9_rate_61 : decode cX9_rate 61 = .ok (.getfield 26, 3) := by decide +kernel
theorem dX9_rate_64 : decode cX9_rate 64 = .ok (.iload_n 1, 1) := by decide +kernel
theorem dX9_rate_65 : decode cX9_rate 65 = .ok (.iload_n 2, 1) := by decide +kernel
theorem dX9_rate_66 : decode cX9_rate 66 = .ok (.iastore, 1) := by decide +kernel
theorem dX9_rate_67 : decode cX9_rate 67 = .ok (.iload 5, 2) := by decide +kernel
theorem dX9_rate_69 : decode cX9_rate 69 = .ok (.ireturn, 1) := by decide +kernel
theorem dX9_like_0 : decode cX9_like 0 = .ok (.iload_n 1, 1) := by decide +kernel
theorem dX9_like_1 : decode cX9_like 1 = .ok (.invokestatic 46, 3) := by decide +kernel
theorem dX9_like_4 : decode cX9_like 4 = .ok (.ifCond .eq 10, 3) := by decide +kernel
theorem dX9_like_7 : decode cX9_like 7 = .ok (.iload_n 3, 1) := by decide +kernel
theorem dX9_like_8 : decode cX9_like 8 = .ok (.invokestatic 46, 3) := by decide +kernel
theorem dX9_like_11 : decode cX9_like 11 = .ok (.ifCond .ne 5, 3) := by decide +kernel
theorem dX9_like_14 : decode cX9_like 14 = .ok (.iconst (-1), 1) := by decide +kernel
theorem dX9_like_15 : decode cX9_like 15 = .ok (.ireturn, 1) := by decide +kernel
theorem dX9_like_16 : decode cX9_like 16 = .ok (.aload_n 0, 1) := by decide +kernel
theorem dX9_like_17 : decode cX9_like 17 = .ok (.iload_n 1, 1) := by decide +kernel
theorem dX9_like_18 : decode cX9_like 18 = .ok (.iload_n 2, 1) := by decide +kernel
theorem dX9_like_19 : decode cX9_like 19 = .ok (.invokevirtual 91, 3) := by decide +kernel
theorem dX9_like_22 : decode cX9_like 22 = .ok (.istore 5, 2) := by decide +kernel
theorem dX9_like_24 : decode cX9_like 24 = .ok (.iload 5, 2) := by decide +kernel
theorem dX9_like_26 : decode cX9_like 26 = .ok (.ifCond .ne 12, 3) := by decide +kernel
theorem dX9_like_29 : decode cX9_like 29 = .ok (.aload_n 0, 1) := by decide +kernel
theorem dX9_like_30 : decode cX9_like 30 = .ok (.iload_n 3, 1) := by decide +kernel
theorem dX9_like_31 : decode cX9_like 31 = .ok (.iload 4, 2) := by decide +kernel
theorem dX9_like_33 : decode cX9_like 33 = .ok (.invokevirtual 91, 3) := by decide +kernel
theorem dX9_like_36 : decode cX9_like 36 = .ok (.istore 5, 2) := by decide +kernel
theorem dX9_like_38 : decode cX9_like 38 = .ok (.iload 5, 2) := by decide +kernel
theorem dX9_like_40 : decode cX9_like 40 = .ok (.ifCond .eq 9, 3) := by decide +kernel
theorem dX9_like_43 : decode cX9_like 43 = .ok (.iload 5, 2) := by decide +kernel
theorem dX9_like_45 : decode cX9_like 45 = .ok (.invokestatic 62, 3) := by decide +kernel
theorem dX9_like_48 : decode cX9_like 48 = .ok (.ireturn, 1) := by decide +kernel
theorem dX9_like_49 : decode cX9_like 49 = .ok (.aload_n 0, 1) := by decide +kernel
theorem dX9_like_50 : decode cX9_like 50 = .ok (.getfield 10, 3) := by decide +kernel
theorem dX9_like_53 : decode cX9_like 53 = .ok (.getfield 69, 3) := by decide +kernel
theorem dX9_like_56 : decode cX9_like 56 = .ok (.iload_n 1, 1) := by decide +kernel
theorem dX9_like_57 : decode cX9_like 57 = .ok (.aaload, 1) := by decide +kernel
theorem dX9_like_58 : decode cX9_like 58 = .ok (.iload_n 2, 1) := by decide +kernel
theorem dX9_like_59 : decode cX9_like 59 = .ok (.aload_n 0, 1) := by decide +kernel
theorem dX9_like_60 : decode cX9_like 60 = .ok (.getfield 10, 3) := by decide +kernel
theorem dX9_like_63 : decode cX9_like 63 = .ok (.getfield 69, 3) := by decide +kernel
theorem dX9_like_66 : decode cX9_like 66 = .ok (.iload_n 3, 1) := by decide +kernel
theorem dX9_like_67 : decode cX9_like 67 = .ok (.aaload, 1) := by decide +kernel
theorem dX9_like_68 : decode cX9_like 68 = .ok (.iload 4, 2) := by decide +kernel
theorem dX9_like_70 : decode cX9_like 70 = .ok (.aload_n 0, 1) := by decide +kernel
theorem dX9_like_71 : decode cX9_like 71 = .ok (.getfield 26, 3) := by decide +kernel
theorem dX9_like_74 : decode cX9_like 74 = .ok (.iconst 0, 1) := by decide +kernel
theorem dX9_like_75 : decode cX9_like 75 = .ok (.iaload, 1) := by decide +kernel
theorem dX9_like_76 : decode cX9_like 76 = .ok (.invokestatic 128, 3) := by decide +kernel
theorem dX9_like_79 : decode cX9_like 79 = .ok (.ireturn, 1) := by decide +kernel
theorem dX9_compare_0 : decode cX9_compare 0 = .ok (.iload_n 1, 1) := by decide +kernel
theorem dX9_compare_1 : decode cX9_compare 1 = .ok (.invokestatic 46, 3) := by decide +kernel
theorem dX9_compare_4 : decode cX9_compare 4 = .ok (.ifCond .eq 10, 3) := by decide +kernel
theorem dX9_compare_7 : decode cX9_compare 7 = .ok (.iload_n 2, 1) := by decide +kernel
theorem dX9_compare_8 : decode cX9_compare 8 = .ok (.invokestatic 46, 3) := by decide +kernel
theorem dX9_compare_11 : decode cX9_compare 11 = .ok (.ifCond .ne 5, 3) := by decide +kernel
theorem dX9_compare_14 : decode cX9_compare 14 = .ok (.iconst (-1), 1) := by decide +kernel
theorem dX9_compare_15 : decode cX9_compare 15 = .ok (.ireturn, 1) := by decide +kernel
theorem dX9_compare_16 : decode cX9_compare 16 = .ok (.aload_n 0, 1) := by decide +kernel
theorem dX9_compare_17 : decode cX9_compare 17 = .ok (.getfield 10, 3) := by decide +kernel
theorem dX9_compare_20 : decode cX9_compare 20 = .ok (.getfield 69, 3) := by decide +kernel
theorem dX9_compare_23 : decode cX9_compare 23 = .ok (.iload_n 1, 1) := by decide +kernel
theorem dX9_compare_24 : decode cX9_compare 24 = .ok (.aaload, 1) := by decide +kernel
theorem dX9_compare_25 : decode cX9_compare 25 = .ok (.astore_n 3, 1) := by decide +kernel
theorem dX9_compare_26 : decode cX9_compare 26 = .ok (.aload_n 3, 1) := by decide +kernel
theorem dX9_compare_27 : decode cX9_compare 27 = .ok (.ifnonnull 15, 3) := by decide +kernel
theorem dX9_compare_30 : decode cX9_compare 30 = .ok (.aload_n 0, 1) := by decide +kernel
theorem dX9_compare_31 : decode cX9_compare 31 = .ok (.getfield 10, 3) := by decide +kernel
theorem dX9_compare_34 : decode cX9_compare 34 = .ok (.iload_n 1, 1) := by decide +kernel
theorem dX9_compare_35 : decode cX9_compare 35 = .ok (.invokevirtual 85, 3) := by decide +kernel
theorem dX9_compare_38 : decode cX9_compare 38 = .ok (.invokestatic 62, 3) := by decide +kernel
theorem dX9_compare_41 : decode cX9_compare 41 = .ok (.ireturn, 1) := by decide +kernel
theorem dX9_compare_42 : decode cX9_compare 42 = .ok (.aload_n 0, 1) := by decide +kernel
theorem dX9_compare_43 : decode cX9_compare 43 = .ok (.getfield 10, 3) := by decide +kernel
theorem dX9_compare_46 : decode cX9_compare 46 = .ok (.getfield 69, 3) := by decide +kernel
theorem dX9_compare_49 : decode cX9_compare 49 = .ok (.iload_n 2, 1) := by decide +kernel
theorem dX9_compare_50 : decode cX9_compare 50 = .ok (.aaload, 1) := by decide +kernel
theorem dX9_compare_51 : decode cX9_compare 51 = .ok (.astore 4, 2) := by decide +kernel
theorem dX9_compare_53 : decode cX9_compare 53 = .ok (.aload 4, 2) := by decide +kernel
theorem dX9_compare_55 : decode cX9_compare 55 = .ok (.ifnonnull 15, 3) := by decide +kernel
theorem dX9_compare_58 : decode cX9_compare 58 = .ok (.aload_n 0, 1) := by decide +kernel
theorem dX9_compare_59 : decode cX9_compare 59 = .ok (.getfield 10, 3) := by decide +kernel
theorem dX9_compare_62 : decode cX9_compare 62 = .ok (.iload_n 2, 1) := by decide +kernel
theorem dX9_compare_63 : decode cX9_compare 63 = .ok (.invokevirtual 85, 3) := by decide +kernel
theorem dX9_compare_66 : decode cX9_compare 66 = .ok (.invokestatic 62, 3) := by decide +kernel
theorem dX9_compare_69 : decode cX9_compare 69 = .ok (.ireturn, 1) := by decide +kernel
theorem dX9_compare_70 : decode cX9_compare 70 = .ok (.aload_n 0, 1) := by decide +kernel
theorem dX9_compare_71 : decode cX9_compare 71 = .ok (.getfield 33, 3) := by decide +kernel
theorem dX9_compare_74 : decode cX9_compare 74 = .ok (.aload_n 3, 1) := by decide +kernel
theorem dX9_compare_75 : decode cX9_compare 75 = .ok (.aload 4, 2) := by decide +kernel
theorem dX9_compare_77 : decode cX9_compare 77 = .ok (.aload_n 0, 1) := by decide +kernel
theorem dX9_compare_78 : decode cX9_compare 78 = .ok (.getfield 26, 3) := by decide +kernel
theorem dX9_compare_81 : decode cX9_compare 81 = .ok (.invokevirtual 134, 3) := by decide +kernel
theorem dX9_compare_84 : decode cX9_compare 84 = .ok (.istore 5, 2) := by decide +kernel
theorem dX9_compare_86 : decode cX9_compare 86 = .ok (.aload_n 0, 1) := by decide +kernel
theorem dX9_compare_87 : decode cX9_compare 87 = .ok (.new 138, 3) := by decide +kernel
theorem dX9_compare_90 : decode cX9_compare 90 = .ok (.dup, 1) := by decide +kernel
theorem dX9_compare_91 : decode cX9_compare 91 = .ok (.aload_n 3, 1) := by decide +kernel
theorem dX9_compare_92 : decode cX9_compare 92 = .ok (.invokevirtual 140, 3) := by decide +kernel
theorem dX9_compare_95 : decode cX9_compare 95 = .ok (.aload 4, 2) := by decide +kernel
theorem dX9_compare_97 : decode cX9_compare 97 = .ok (.invokevirtual 140, 3) := by decide +kernel
theorem dX9_compare_100 : decode cX9_compare 100 = .ok (.iload 5, 2) := by decide +kernel
theorem dX9_compare_102 : decode cX9_compare 102 = .ok (.invokespecial 144, 3) := by decide +kernel
theorem dX9_compare_105 : decode cX9_compare 105 = .ok (.putfield 147, 3) := by decide +kernel
theorem dX9_compare_108 : decode cX9_compare 108 = .ok (.aload_n 0, 1) := by decide +kernel
theorem dX9_compare_109 : decode cX9_compare 109 = .ok (.getfield 33, 3) := by decide +kernel
theorem dX9_compare_112 : decode cX9_compare 112 = .ok (.aload_n 0, 1) := by decide +kernel
theorem dX9_compare_113 : decode cX9_compare 113 = .ok (.getfield 147, 3) := by decide +kernel
theorem dX9_compare_116 : decode cX9_compare 116 = .ok (.aload_n 0, 1) := by decide +kernel
theorem dX9_compare_117 : decode cX9_compare 117 = .ok (.getfield 26, 3) := by decide +kernel
theorem dX9_compare_120 : decode cX9_compare 120 = .ok (.invokevirtual 151, 3) := by decide +kernel
theorem dX9_compare_123 : decode cX9_compare 123 = .ok (.iload 5, 2) := by decide +kernel
theorem dX9_compare_125 : decode cX9_compare 125 = .ok (.ireturn, 1) := by decide +kernel
theorem dX9_result_0 : decode cX9_result 0 = .ok (.iload_n 1, 1) := by decide +kernel
theorem dX9_result_1 : decode cX9_result 1 = .ok (.iconst 0, 1) := by decide +kernel
theorem dX9_result_2 : decode cX9_result 2 = .ok (.bipush 9, 2) := by decide +kernel
theorem dX9_result_4 : decode cX9_result 4 = .ok (.invokestatic 50, 3) := by decide +kernel
theorem dX9_result_7 : decode cX9_result 7 = .ok (.ifCond .ne 5, 3) := by decide +kernel
theorem dX9_result_10 : decode cX9_result 10 = .ok (.iconst (-1), 1) := by decide +kernel
theorem dX9_result_11 : decode cX9_result 11 = .ok (.ireturn, 1) := by decide +kernel
theorem dX9_result_12 : decode cX9_result 12 = .ok (.aload_n 0, 1) := by decide +kernel
theorem dX9_result_13 : decode cX9_result 13 = .ok (.getfield 147, 3) := by decide +kernel
theorem dX9_result_16 : decode cX9_result 16 = .ok (.ifnonnull 6, 3) := by decide +kernel
theorem dX9_result_19 : decode cX9_result 19 = .ok (.bipush (-2), 2) := by decide +kernel
theorem dX9_result_21 : decode cX9_result 21 = .ok (.ireturn, 1) := by decide +kernel
theorem dX9_result_22 : decode cX9_result 22 = .ok (.iload_n 1, 1) := by decide +kernel
theorem dX9_result_23 : decode cX9_result 23 = .ok (.tableswitch 127 0 8 #[49, 57, 65, 74, 83, 92, 101, 110, 119], 49) := by decide +kernel
theorem dX9_result_72 : decode cX9_result 72 = .ok (.aload_n 0, 1) := by decide +kernel
theorem dX9_result_73 : decode cX9_result 73 = .ok (.getfield 147, 3) := by decide +kernel
theorem dX9_result_76 : decode cX9_result 76 = .ok (.getfield 155, 3) := by decide +kernel
theorem dX9_result_79 : decode cX9_result 79 = .ok (.ireturn, 1) := by decide +kernel
theorem dX9_result_80 : decode cX9_result 80 = .ok (.aload_n 0, 1) := by decide +kernel
theorem dX9_result_81 : decode cX9_result 81 = .ok (.getfield 147, 3) := by decide +kernel
theorem dX9_result_84 : decode cX9_result 84 = .ok (.getfield 158, 3) := by decide +kernel
theorem dX9_result_87 : decode cX9_result 87 = .ok (.ireturn, 1) := by decide +kernel
theorem dX9_result_88 : decode cX9_result 88 = .ok (.aload_n 0, 1) := by decide +kernel
theorem dX9_result_89 : decode cX9_result 89 = .ok (.getfield 147, 3) := by decide +kernel
theorem dX9_result_92 : decode cX9_result 92 = .ok (.iconst 0, 1) := by decide +kernel
theorem dX9_result_93 : decode cX9_result 93 = .ok (.invokevirtual 161, 3) := by decide +kernel
theorem dX9_result_96 : decode cX9_result 96 = .ok (.ireturn, 1) := by decide +kernel
theorem dX9_result_97 : decode cX9_result 97 = .ok (.aload_n 0, 1) := by decide +kernel
theorem dX9_result_98 : decode cX9_result 98 = .ok (.getfield 147, 3) := by decide +kernel
theorem dX9_result_101 : decode cX9_result 101 = .ok (.iconst 1, 1) := by decide +kernel
theorem dX9_result_102 : decode cX9_result 102 = .ok (.invokevirtual 161, 3) := by decide +kernel
theorem dX9_result_105 : decode cX9_result 105 = .ok (.ireturn, 1) := by decide +kernel
theorem dX9_result_106 : decode cX9_result 106 = .ok (.aload_n 0, 1) := by decide +kernel
theorem dX9_result_107 : decode cX9_result 107 = .ok (.getfield 147, 3) := by decide +kernel
theorem dX9_result_110 : decode cX9_result 110 = .ok (.iconst 2, 1) := by decide +kernel
theorem dX9_result_111 : decode cX9_result 111 = .ok (.invokevirtual 161, 3) := by decide +kernel
theorem dX9_result_114 : decode cX9_result 114 = .ok (.ireturn, 1) := by decide +kernel
theorem dX9_result_115 : decode cX9_result 115 = .ok (.aload_n 0, 1) := by decide +kernel
theorem dX9_result_116 : decode cX9_result 116 = .ok (.getfield 147, 3) := by decide +kernel
theorem dX9_result_119 : decode cX9_result 119 = .ok (.iconst 1, 1) := by decide +kernel
theorem dX9_result_120 : decode cX9_result 120 = .ok (.invokevirtual 164, 3) := by decide +kernel
theorem dX9_result_123 : decode cX9_result 123 = .ok (.ireturn, 1) := by decide +kernel
theorem dX9_result_124 : decode cX9_result 124 = .ok (.aload_n 0, 1) := by decide +kernel
theorem dX9_result_125 : decode cX9_result 125 = .ok (.getfield 147, 3) := by decide +kernel
theorem dX9_result_128 : decode cX9_result 128 = .ok (.iconst 2, 1) := by decide +kernel
theorem dX9_result_129 : decode cX9_result 129 = .ok (.invokevirtual 164, 3) := by decide +kernel
theorem dX9_result_132 : decode cX9_result 132 = .ok (.ireturn, 1) := by decide +kernel
theorem dX9_result_133 : decode cX9_result 133 = .ok (.aload_n 0, 1) := by decide +kernel
theorem dX9_result_134 : decode cX9_result 134 = .ok (.getfield 147, 3) := by decide +kernel
theorem dX9_result_137 : decode cX9_result 137 = .ok (.iconst 4, 1) := by decide +kernel
theorem dX9_result_138 : decode cX9_result 138 = .ok (.invokevirtual 161, 3) := by decide +kernel
theorem dX9_result_141 : decode cX9_result 141 = .ok (.ireturn, 1) := by decide +kernel
theorem dX9_result_142 : decode cX9_result 142 = .ok (.aload_n 0, 1) := by decide +kernel
theorem dX9_result_143 : decode cX9_result 143 = .ok (.getfield 147, 3) := by decide +kernel
theorem dX9_result_146 : decode cX9_result 146 = .ok (.invokevirtual 167, 3) := by decide +kernel
theorem dX9_result_149 : decode cX9_result 149 = .ok (.ireturn, 1) := by decide +kernel
theorem dX9_result_150 : decode cX9_result 150 = .ok (.aload_n 0, 1) := by decide +kernel
theorem dX9_result_151 : decode cX9_result 151 = .ok (.getfield 147, 3) := by decide +kernel
theorem dX9_result_154 : decode cX9_result 154 = .ok (.invokevirtual 171, 3) := by decide +kernel
theorem dX9_result_157 : decode cX9_result 157 = .ok (.ireturn, 1) := by decide +kernel
theorem dX9_step_0 : decode cX9_step 0 = .ok (.iload_n 1, 1) := by decide +kernel
theorem dX9_step_1 : decode cX9_step 1 = .ok (.ifCond .lt 12, 3) := by decide +kernel
theorem dX9_step_4 : decode cX9_step 4 = .ok (.iload_n 2, 1) := by decide +kernel
theorem dX9_step_5 : decode cX9_step 5 = .ok (.iconst 0, 1) := by decide +kernel
theorem dX9_step_6 : decode cX9_step 6 = .ok (.iconst 3, 1) := by decide +kernel
theorem dX9_step_7 : decode cX9_step 7 = .ok (.invokestatic 50, 3) := by decide +kernel
theorem dX9_step_10 : decode cX9_step 10 = .ok (.ifCond .ne 5, 3) := by decide +kernel
theorem dX9_step_13 : decode cX9_step 13 = .ok (.iconst (-1), 1) := by decide +kernel
theorem dX9_step_14 : decode cX9_step 14 = .ok (.ireturn, 1) := by decide +kernel
theorem dX9_step_15 : decode cX9_step 15 = .ok (.aload_n 0, 1) := by decide +kernel
theorem dX9_step_16 : decode cX9_step 16 = .ok (.getfield 147, 3) := by decide +kernel
theorem dX9_step_19 : decode cX9_step 19 = .ok (.ifnonnull 6, 3) := by decide +kernel
theorem dX9_step_22 : decode cX9_step 22 = .ok (.bipush (-2), 2) := by decide +kernel
theorem dX9_step_24 : decode cX9_step 24 = .ok (.ireturn, 1) := by decide +kernel
theorem dX9_step_25 : decode cX9_step 25 = .ok (.iload_n 1, 1) := by decide +kernel
theorem dX9_step_26 : decode cX9_step 26 = .ok (.aload_n 0, 1) := by decide +kernel
theorem dX9_step_27 : decode cX9_step 27 = .ok (.getfield 147, 3) := by decide +kernel
theorem dX9_step_30 : decode cX9_step 30 = .ok (.getfield 158, 3) := by decide +kernel
theorem dX9_step_33 : decode cX9_step 33 = .ok (.if_icmp .lt 6, 3) := by decide +kernel
theorem dX9_step_36 : decode cX9_step 36 = .ok (.bipush (-4), 2) := by decide +kernel
theorem dX9_step_38 : decode cX9_step 38 = .ok (.ireturn, 1) := by decide +kernel
theorem dX9_step_39 : decode cX9_step 39 = .ok (.iload_n 2, 1) := by decide +kernel
theorem dX9_step_40 : decode cX9_step 40 = .ok (.tableswitch 90 0 2 #[28, 38, 64], 28) := by decide +kernel
theorem dX9_step_68 : decode cX9_step 68 = .ok (.aload_n 0, 1) := by decide +kernel
theorem dX9_step_69 : decode cX9_step 69 = .ok (.getfield 147, 3) := by decide +kernel
theorem dX9_step_72 : decode cX9_step 72 = .ok (.getfield 174, 3) := by decide +kernel
theorem dX9_step_75 : decode cX9_step 75 = .ok (.iload_n 1, 1) := by decide +kernel
theorem dX9_step_76 : decode cX9_step 76 = .ok (.iaload, 1) := by decide +kernel
theorem dX9_step_77 : decode cX9_step 77 = .ok (.ireturn, 1) := by decide +kernel
theorem dX9_step_78 : decode cX9_step 78 = .ok (.aload_n 0, 1) := by decide +kernel
theorem dX9_step_79 : decode cX9_step 79 = .ok (.getfield 147, 3) := by decide +kernel
theorem dX9_step_82 : decode cX9_step 82 = .ok (.iload_n 1, 1) := by decide +kernel
theorem dX9_step_83 : decode cX9_step 83 = .ok (.invokevirtual 177, 3) := by decide +kernel
theorem dX9_step_86 : decode cX9_step 86 = .ok (.ifCond .eq 15, 3) := by decide +kernel
theorem dX9_step_89 : decode cX9_step 89 = .ok (.aload_n 0, 1) := by decide +kernel
theorem dX9_step_90 : decode cX9_step 90 = .ok (.getfield 147, 3) := by decide +kernel
theorem dX9_step_93 : decode cX9_step 93 = .ok (.getfield 180, 3) := by decide +kernel
theorem dX9_step_96 : decode cX9_step 96 = .ok (.iload_n 1, 1) := by decide +kernel
theorem dX9_step_97 : decode cX9_step 97 = .ok (.iaload, 1) := by decide +kernel
theorem dX9_step_98 : decode cX9_step 98 = .ok (.goto 5, 3) := by decide +kernel
theorem dX9_step_101 : decode cX9_step 101 = .ok (.bipush (-4), 2) := by decide +kernel
theorem dX9_step_103 : decode cX9_step 103 = .ok (.ireturn, 1) := by decide +kernel
theorem dX9_step_104 : decode cX9_step 104 = .ok (.aload_n 0, 1) := by decide +kernel
theorem dX9_step_105 : decode cX9_step 105 = .ok (.getfield 147, 3) := by decide +kernel
theorem dX9_step_108 : decode cX9_step 108 = .ok (.iload_n 1, 1) := by decide +kernel
theorem dX9_step_109 : decode cX9_step 109 = .ok (.invokevirtual 183, 3) := by decide +kernel
theorem dX9_step_112 : decode cX9_step 112 = .ok (.ifCond .eq 15, 3) := by decide +kernel
theorem dX9_step_115 : decode cX9_step 115 = .ok (.aload_n 0, 1) := by decide +kernel
theorem dX9_step_116 : decode cX9_step 116 = .ok (.getfield 147, 3) := by decide +kernel
theorem dX9_step_119 : decode cX9_step 119 = .ok (.getfield 186, 3) := by decide +kernel
theorem dX9_step_122 : decode cX9_step 122 = .ok (.iload_n 1, 1) := by decide +kernel
theorem dX9_step_123 : decode cX9_step 123 = .ok (.iaload, 1) := by decide +kernel
theorem dX9_step_124 : decode cX9_step 124 = .ok (.goto 5, 3) := by decide +kernel
theorem dX9_step_127 : decode cX9_step 127 = .ok (.bipush (-4), 2) := by decide +kernel
theorem dX9_step_129 : decode cX9_step 129 = .ok (.ireturn, 1) := by decide +kernel
theorem dX9_step_130 : decode cX9_step 130 = .ok (.aload_n 0, 1) := by decide +kernel
theorem dX9_step_131 : decode cX9_step 131 = .ok (.getfield 147, 3) := by decide +kernel
theorem dX9_step_134 : decode cX9_step 134 = .ok (.getfield 189, 3) := by decide +kernel
theorem dX9_step_137 : decode cX9_step 137 = .ok (.iload_n 1, 1) := by decide +kernel
theorem dX9_step_138 : decode cX9_step 138 = .ok (.iaload, 1) := by decide +kernel
theorem dX9_step_139 : decode cX9_step 139 = .ok (.ireturn, 1) := by decide +kernel
theorem dX9_join_0 : decode cX9_join 0 = .ok (.iload_n 1, 1) := by decide +kernel
theorem dX9_join_1 : decode cX9_join 1 = .ok (.invokestatic 46, 3) := by decide +kernel
theorem dX9_join_4 : decode cX9_join 4 = .ok (.ifCond .eq 12, 3) := by decide +kernel
theorem dX9_join_7 : decode cX9_join 7 = .ok (.iload_n 2, 1) := by decide +kernel
theorem dX9_join_8 : decode cX9_join 8 = .ok (.iconst 0, 1) := by decide +kernel
theorem dX9_join_9 : decode cX9_join 9 = .ok (.iconst 2, 1) := by decide +kernel
theorem dX9_join_10 : decode cX9_join 10 = .ok (.invokestatic 50, 3) := by decide +kernel
theorem dX9_join_13 : decode cX9_join 13 = .ok (.ifCond .ne 5, 3) := by decide +kernel
theorem dX9_join_16 : decode cX9_join 16 = .ok (.iconst (-1), 1) := by decide +kernel
theorem dX9_join_17 : decode cX9_join 17 = .ok (.ireturn, 1) := by decide +kernel
theorem dX9_join_18 : decode cX9_join 18 = .ok (.aload_n 0, 1) := by decide +kernel
theorem dX9_join_19 : decode cX9_join 19 = .ok (.getfield 147, 3) := by decide +kernel
theorem dX9_join_22 : decode cX9_join 22 = .ok (.ifnonnull 6, 3) := by decide +kernel
theorem dX9_join_25 : decode cX9_join 25 = .ok (.bipush (-2), 2) := by decide +kernel
theorem dX9_join_27 : decode cX9_join 27 = .ok (.ireturn, 1) := by decide +kernel
theorem dX9_join_28 : decode cX9_join 28 = .ok (.aload_n 0, 1) := by decide +kernel
theorem dX9_join_29 : decode cX9_join 29 = .ok (.getfield 147, 3) := by decide +kernel
theorem dX9_join_32 : decode cX9_join 32 = .ok (.invokevirtual 171, 3) := by decide +kernel
theorem dX9_join_35 : decode cX9_join 35 = .ok (.bipush 20, 2) := by decide +kernel
theorem dX9_join_37 : decode cX9_join 37 = .ok (.if_icmp .le 6, 3) := by decide +kernel
theorem dX9_join_40 : decode cX9_join 40 = .ok (.bipush (-3), 2) := by decide +kernel
theorem dX9_join_42 : decode cX9_join 42 = .ok (.ireturn, 1) := by decide +kernel
theorem dX9_join_43 : decode cX9_join 43 = .ok (.aload_n 0, 1) := by decide +kernel
theorem dX9_join_44 : decode cX9_join 44 = .ok (.getfield 147, 3) := by decide +kernel
theorem dX9_join_47 : decode cX9_join 47 = .ok (.iload_n 2, 1) := by decide +kernel
theorem dX9_join_48 : decode cX9_join 48 = .ok (.invokevirtual 192, 3) := by decide +kernel
theorem dX9_join_51 : decode cX9_join 51 = .ok (.astore_n 3, 1) := by decide +kernel
theorem dX9_join_52 : decode cX9_join 52 = .ok (.aload_n 0, 1) := by decide +kernel
theorem dX9_join_53 : decode cX9_join 53 = .ok (.getfield 10, 3) := by decide +kernel
theorem dX9_join_56 : decode cX9_join 56 = .ok (.iload_n 1, 1) := by decide +kernel
theorem dX9_join_57 : decode cX9_join 57 = .ok (.aload_n 3, 1) := by decide +kernel
theorem dX9_join_58 : decode cX9_join 58 = .ok (.invokevirtual 54, 3) := by decide +kernel
theorem dX9_join_61 : decode cX9_join 61 = .ok (.aload_n 3, 1) := by decide +kernel
theorem dX9_join_62 : decode cX9_join 62 = .ok (.getfield 88, 3) := by decide +kernel
theorem dX9_join_65 : decode cX9_join 65 = .ok (.ireturn, 1) := by decide +kernel
theorem dX9_near_0 : decode cX9_near 0 = .ok (.iload_n 1, 1) := by decide +kernel
theorem dX9_near_1 : decode cX9_near 1 = .ok (.invokestatic 46, 3) := by decide +kernel
theorem dX9_near_4 : decode cX9_near 4 = .ok (.ifCond .ne 5, 3) := by decide +kernel
theorem dX9_near_7 : decode cX9_near 7 = .ok (.iconst (-1), 1) := by decide +kernel
theorem dX9_near_8 : decode cX9_near 8 = .ok (.ireturn, 1) := by decide +kernel
theorem dX9_near_9 : decode cX9_near 9 = .ok (.aload_n 0, 1) := by decide +kernel
theorem dX9_near_10 : decode cX9_near 10 = .ok (.getfield 10, 3) := by decide +kernel
theorem dX9_near_13 : decode cX9_near 13 = .ok (.getfield 69, 3) := by decide +kernel
theorem dX9_near_16 : decode cX9_near 16 = .ok (.iload_n 1, 1) := by decide +kernel
theorem dX9_near_17 : decode cX9_near 17 = .ok (.aaload, 1) := by decide +kernel
theorem dX9_near_18 : decode cX9_near 18 = .ok (.astore_n 2, 1) := by decide +kernel
theorem dX9_near_19 : decode cX9_near 19 = .ok (.aload_n 2, 1) := by decide +kernel
theorem dX9_near_20 : decode cX9_near 20 = .ok (.ifnonnull 15, 3) := by decide +kernel
theorem dX9_near_23 : decode cX9_near 23 = .ok (.aload_n 0, 1) := by decide +kernel
theorem dX9_near_24 : decode cX9_near 24 = .ok (.getfield 10, 3) := by decide +kernel
theorem dX9_near_27 : decode cX9_near 27 = .ok (.iload_n 1, 1) := by decide +kernel
theorem dX9_near_28 : decode cX9_near 28 = .ok (.invokevirtual 85, 3) := by decide +kernel
theorem dX9_near_31 : decode cX9_near 31 = .ok (.invokestatic 62, 3) := by decide +kernel
theorem dX9_near_34 : decode cX9_near 34 = .ok (.ireturn, 1) := by decide +kernel
theorem dX9_near_35 : decode cX9_near 35 = .ok (.bipush (-4), 2) := by decide +kernel
theorem dX9_near_37 : decode cX9_near 37 = .ok (.istore_n 3, 1) := by decide +kernel
theorem dX9_near_38 : decode cX9_near 38 = .ok (.iconst 0, 1) := by decide +kernel
theorem dX9_near_39 : decode cX9_near 39 = .ok (.istore 4, 2) := by decide +kernel
theorem dX9_near_41 : decode cX9_near 41 = .ok (.iconst 0, 1) := by decide +kernel
theorem dX9_near_42 : decode cX9_near 42 = .ok (.istore 5, 2) := by decide +kernel
theorem dX9_near_44 : decode cX9_near 44 = .ok (.iload 5, 2) := by decide +kernel
theorem dX9_near_46 : decode cX9_near 46 = .ok (.bipush 8, 2) := by decide +kernel
theorem dX9_near_48 : decode cX9_near 48 = .ok (.if_icmp .ge 71, 3) := by decide +kernel
theorem dX9_near_51 : decode cX9_near 51 = .ok (.aload_n 0, 1) := by decide +kernel
theorem dX9_near_52 : decode cX9_near 52 = .ok (.getfield 10, 3) := by decide +kernel
theorem dX9_near_55 : decode cX9_near 55 = .ok (.getfield 69, 3) := by decide +kernel
theorem dX9_near_58 : decode cX9_near 58 = .ok (.iload 5, 2) := by decide +kernel
theorem dX9_near_60 : decode cX9_near 60 = .ok (.aaload, 1) := by decide +kernel
theorem dX9_near_61 : decode cX9_near 61 = .ok (.astore 6, 2) := by decide +kernel
theorem dX9_near_63 : decode cX9_near 63 = .ok (.iload 5, 2) := by decide +kernel
theorem dX9_near_65 : decode cX9_near 65 = .ok (.iload_n 1, 1) := by decide +kernel
theorem dX9_near_66 : decode cX9_near 66 = .ok (.if_icmp .eq 47, 3) := by decide +kernel
theorem dX9_near_69 : decode cX9_near 69 = .ok (.aload 6, 2) := by decide +kernel
theorem dX9_near_71 : decode cX9_near 71 = .ok (.ifnonnull 6, 3) := by decide +kernel
theorem dX9_near_74 : decode cX9_near 74 = .ok (.goto 39, 3) := by decide +kernel
theorem dX9_near_77 : decode cX9_near 77 = .ok (.aload_n 0, 1) := by decide +kernel
theorem dX9_near_78 : decode cX9_near 78 = .ok (.getfield 33, 3) := by decide +kernel
theorem dX9_near_81 : decode cX9_near 81 = .ok (.aload_n 2, 1) := by decide +kernel
theorem dX9_near_82 : decode cX9_near 82 = .ok (.aload 6, 2) := by decide +kernel
theorem dX9_near_84 : decode cX9_near 84 = .ok (.aload_n 0, 1) := by decide +kernel
theorem dX9_near_85 : decode cX9_near 85 = .ok (.getfield 26, 3) := by decide +kernel
theorem dX9_near_88 : decode cX9_near 88 = .ok (.invokevirtual 134, 3) := by decide +kernel
theorem dX9_near_91 : decode cX9_near 91 = .ok (.istore 7, 2) := by decide +kernel
theorem dX9_near_93 : decode cX9_near 93 = .ok (.iload_n 3, 1) := by decide +kernel
theorem dX9_near_94 : decode cX9_near 94 = .ok (.bipush (-4), 2) := by decide +kernel
theorem dX9_near_96 : decode cX9_near 96 = .ok (.if_icmp .eq 10, 3) := by decide +kernel
theorem dX9_near_99 : decode cX9_near 99 = .ok (.iload 7, 2) := by decide +kernel
theorem dX9_near_101 : decode cX9_near 101 = .ok (.iload 4, 2) := by decide +kernel
theorem dX9_near_103 : decode cX9_near 103 = .ok (.if_icmp .ge 10, 3) := by decide +kernel
theorem dX9_near_106 : decode cX9_near 106 = .ok (.iload 5, 2) := by decide +kernel
theorem dX9_near_108 : decode cX9_near 108 = .ok (.istore_n 3, 1) := by decide +kernel
theorem dX9_near_109 : decode cX9_near 109 = .ok (.iload 7, 2) := by decide +kernel
theorem dX9_near_111 : decode cX9_near 111 = .ok (.istore 4, 2) := by decide +kernel
theorem dX9_near_113 : decode cX9_near 113 = .ok (.iinc 5 1, 3) := by decide +kernel
theorem dX9_near_116 : decode cX9_near 116 = .ok (.goto (-72), 3) := by decide +kernel
theorem dX9_near_119 : decode cX9_near 119 = .ok (.iload_n 3, 1) := by decide +kernel
theorem dX9_near_120 : decode cX9_near 120 = .ok (.ireturn, 1) := by decide +kernel
theorem dX9_lag_0 : decode cX9_lag 0 = .ok (.iload_n 1, 1) := by decide +kernel
theorem dX9_lag_1 : decode cX9_lag 1 = .ok (.invokestatic 46, 3) := by decide +kernel
theorem dX9_lag_4 : decode cX9_lag 4 = .ok (.ifCond .eq 10, 3) := by decide +kernel
theorem dX9_lag_7 : decode cX9_lag 7 = .ok (.iload_n 2, 1) := by decide +kernel
theorem dX9_lag_8 : decode cX9_lag 8 = .ok (.invokestatic 46, 3) := by decide +kernel
theorem dX9_lag_11 : decode cX9_lag 11 = .ok (.ifCond .ne 5, 3) := by decide +kernel
theorem dX9_lag_14 : decode cX9_lag 14 = .ok (.iconst (-1), 1) := by decide +kernel
theorem dX9_lag_15 : decode cX9_lag 15 = .ok (.ireturn, 1) := by decide +kernel
theorem dX9_lag_16 : decode cX9_lag 16 = .ok (.aload_n 0, 1) := by decide +kernel
theorem dX9_lag_17 : decode cX9_lag 17 = .ok (.getfield 10, 3) := by decide +kernel
theorem dX9_lag_20 : decode cX9_lag 20 = .ok (.getfield 69, 3) := by decide +kernel
theorem dX9_lag_23 : decode cX9_lag 23 = .ok (.iload_n 1, 1) := by decide +kernel
theorem dX9_lag_24 : decode cX9_lag 24 = .ok (.aaload, 1) := by decide +kernel
theorem dX9_lag_25 : decode cX9_lag 25 = .ok (.astore_n 3, 1) := by decide +kernel
theorem dX9_lag_26 : decode cX9_lag 26 = .ok (.aload_n 3, 1) := by decide +kernel
theorem dX9_lag_27 : decode cX9_lag 27 = .ok (.ifnonnull 15, 3) := by decide +kernel
theorem dX9_lag_30 : decode cX9_lag 30 = .ok (.aload_n 0, 1) := by decide +kernel
theorem dX9_lag_31 : decode cX9_lag 31 = .ok (.getfield 10, 3) := by decide +kernel
theorem dX9_lag_34 : decode cX9_lag 34 = .ok (.iload_n 1, 1) := by decide +kernel
theorem dX9_lag_35 : decode cX9_lag 35 = .ok (.invokevirtual 85, 3) := by decide +kernel
theorem dX9_lag_38 : decode cX9_lag 38 = .ok (.invokestatic 62, 3) := by decide +kernel
theorem dX9_lag_41 : decode cX9_lag 41 = .ok (.ireturn, 1) := by decide +kernel
theorem dX9_lag_42 : decode cX9_lag 42 = .ok (.aload_n 0, 1) := by decide +kernel
theorem dX9_lag_43 : decode cX9_lag 43 = .ok (.getfield 10, 3) := by decide +kernel
theorem dX9_lag_46 : decode cX9_lag 46 = .ok (.getfield 69, 3) := by decide +kernel
theorem dX9_lag_49 : decode cX9_lag 49 = .ok (.iload_n 2, 1) := by decide +kernel
theorem dX9_lag_50 : decode cX9_lag 50 = .ok (.aaload, 1) := by decide +kernel
theorem dX9_lag_51 : decode cX9_lag 51 = .ok (.astore 4, 2) := by decide +kernel
theorem dX9_lag_53 : decode cX9_lag 53 = .ok (.aload 4, 2) := by decide +kernel
theorem dX9_lag_55 : decode cX9_lag 55 = .ok (.ifnonnull 15, 3) := by decide +kernel
theorem dX9_lag_58 : decode cX9_lag 58 = .ok (.aload_n 0, 1) := by decide +kernel
theorem dX9_lag_59 : decode cX9_lag 59 = .ok (.getfield 10, 3) := by decide +kernel
theorem dX9_lag_62 : decode cX9_lag 62 = .ok (.iload_n 2, 1) := by decide +kernel
theorem dX9_lag_63 : decode cX9_lag 63 = .ok (.invokevirtual 85, 3) := by decide +kernel
theorem dX9_lag_66 : decode cX9_lag 66 = .ok (.invokestatic 62, 3) := by decide +kernel
theorem dX9_lag_69 : decode cX9_lag 69 = .ok (.ireturn, 1) := by decide +kernel
theorem dX9_lag_70 : decode cX9_lag 70 = .ok (.iconst 0, 1) := by decide +kernel
theorem dX9_lag_71 : decode cX9_lag 71 = .ok (.istore 5, 2) := by decide +kernel
theorem dX9_lag_73 : decode cX9_lag 73 = .ok (.aload_n 3, 1) := by decide +kernel
theorem dX9_lag_74 : decode cX9_lag 74 = .ok (.aload 4, 2) := by decide +kernel
theorem dX9_lag_76 : decode cX9_lag 76 = .ok (.iconst 0, 1) := by decide +kernel
theorem dX9_lag_77 : decode cX9_lag 77 = .ok (.invokestatic 196, 3) := by decide +kernel
theorem dX9_lag_80 : decode cX9_lag 80 = .ok (.istore 6, 2) := by decide +kernel
theorem dX9_lag_82 : decode cX9_lag 82 = .ok (.iconst 1, 1) := by decide +kernel
theorem dX9_lag_83 : decode cX9_lag 83 = .ok (.istore 7, 2) := by decide +kernel
theorem dX9_lag_85 : decode cX9_lag 85 = .ok (.iload 7, 2) := by decide +kernel
theorem dX9_lag_87 : decode cX9_lag 87 = .ok (.bipush 19, 2) := by decide +kernel
theorem dX9_lag_89 : decode cX9_lag 89 = .ok (.if_icmp .gt 61, 3) := by decide +kernel
theorem dX9_lag_92 : decode cX9_lag 92 = .ok (.aload_n 3, 1) := by decide +kernel
theorem dX9_lag_93 : decode cX9_lag 93 = .ok (.aload 4, 2) := by decide +kernel
theorem dX9_lag_95 : decode cX9_lag 95 = .ok (.iload 7, 2) := by decide +kernel
theorem dX9_lag_97 : decode cX9_lag 97 = .ok (.ineg, 1) := by decide +kernel
theorem dX9_lag_98 : decode cX9_lag 98 = .ok (.invokestatic 196, 3) := by decide +kernel
theorem dX9_lag_101 : decode cX9_lag 101 = .ok (.istore 8, 2) := by decide +kernel
theorem dX9_lag_103 : decode cX9_lag 103 = .ok (.iload 8, 2) := by decide +kernel
theorem dX9_lag_105 : decode cX9_lag 105 = .ok (.iload 6, 2) := by decide +kernel
theorem dX9_lag_107 : decode cX9_lag 107 = .ok (.if_icmp .le 12, 3) := by decide +kernel
theorem dX9_lag_110 : decode cX9_lag 110 = .ok (.iload 7, 2) := by decide +kernel
theorem dX9_lag_112 : decode cX9_lag 112 = .ok (.ineg, 1) := by decide +kernel
theorem dX9_lag_113 : decode cX9_lag 113 = .ok (.istore 5, 2) := by decide +kernel
theorem dX9_lag_115 : decode cX9_lag 115 = .ok (.iload 8, 2) := by decide +kernel
theorem dX9_lag_117 : decode cX9_lag 117 = .ok (.istore 6, 2) := by decide +kernel
theorem dX9_lag_119 : decode cX9_lag 119 = .ok (.aload_n 3, 1) := by decide +kernel
theorem dX9_lag_120 : decode cX9_lag 120 = .ok (.aload 4, 2) := by decide +kernel
theorem dX9_lag_122 : decode cX9_lag 122 = .ok (.iload 7, 2) := by decide +kernel
theorem dX9_lag_124 : decode cX9_lag 124 = .ok (.invokestatic 196, 3) := by decide +kernel
theorem dX9_lag_127 : decode cX9_lag 127 = .ok (.istore 9, 2) := by decide +kernel
theorem dX9_lag_129 : decode cX9_lag 129 = .ok (.iload 9, 2) := by decide +kernel
theorem dX9_lag_131 : decode cX9_lag 131 = .ok (.iload 6, 2) := by decide +kernel
theorem dX9_lag_133 : decode cX9_lag 133 = .ok (.if_icmp .le 11, 3) := by decide +kernel
theorem dX9_lag_136 : decode cX9_lag 136 = .ok (.iload 7, 2) := by decide +kernel
theorem dX9_lag_138 : decode cX9_lag 138 = .ok (.istore 5, 2) := by decide +kernel
theorem dX9_lag_140 : decode cX9_lag 140 = .ok (.iload 9, 2) := by decide +kernel
theorem dX9_lag_142 : decode cX9_lag 142 = .ok (.istore 6, 2) := by decide +kernel
theorem dX9_lag_144 : decode cX9_lag 144 = .ok (.iinc 7 1, 3) := by decide +kernel
theorem dX9_lag_147 : decode cX9_lag 147 = .ok (.goto (-62), 3) := by decide +kernel
theorem dX9_lag_150 : decode cX9_lag 150 = .ok (.iload 6, 2) := by decide +kernel
theorem dX9_lag_152 : decode cX9_lag 152 = .ok (.ifCond .ne 8, 3) := by decide +kernel
theorem dX9_lag_155 : decode cX9_lag 155 = .ok (.bipush (-4), 2) := by decide +kernel
theorem dX9_lag_157 : decode cX9_lag 157 = .ok (.goto 8, 3) := by decide +kernel
theorem dX9_lag_160 : decode cX9_lag 160 = .ok (.bipush 100, 2) := by decide +kernel
theorem dX9_lag_162 : decode cX9_lag 162 = .ok (.iload 5, 2) := by decide +kernel
theorem dX9_lag_164 : decode cX9_lag 164 = .ok (.iadd, 1) := by decide +kernel
theorem dX9_lag_165 : decode cX9_lag 165 = .ok (.ireturn, 1) := by decide +kernel
theorem dX9_vote_0 : decode cX9_vote 0 = .ok (.iload_n 1, 1) := by decide +kernel
theorem dX9_vote_1 : decode cX9_vote 1 = .ok (.invokestatic 46, 3) := by decide +kernel
theorem dX9_vote_4 : decode cX9_vote 4 = .ok (.ifCond .eq 25, 3) := by decide +kernel
theorem dX9_vote_7 : decode cX9_vote 7 = .ok (.iload_n 2, 1) := by decide +kernel
theorem dX9_vote_8 : decode cX9_vote 8 = .ok (.invokestatic 46, 3) := by decide +kernel
theorem dX9_vote_11 : decode cX9_vote 11 = .ok (.ifCond .eq 18, 3) := by decide +kernel
theorem dX9_vote_14 : decode cX9_vote 14 = .ok (.iload_n 3, 1) := by decide +kernel
theorem dX9_vote_15 : decode cX9_vote 15 = .ok (.invokestatic 46, 3) := by decide +kernel
theorem dX9_vote_18 : decode cX9_vote 18 = .ok (.ifCond .eq 11, 3) := by decide +kernel
theorem dX9_vote_21 : decode cX9_vote 21 = .ok (.iload 4, 2) := by decide +kernel
theorem dX9_vote_23 : decode cX9_vote 23 = .ok (.invokestatic 46, 3) := by decide +kernel
theorem dX9_vote_26 : decode cX9_vote 26 = .ok (.ifCond .ne 5, 3) := by decide +kernel
theorem dX9_vote_29 : decode cX9_vote 29 = .ok (.iconst (-1), 1) := by decide +kernel
theorem dX9_vote_30 : decode cX9_vote 30 = .ok (.ireturn, 1) := by decide +kernel
theorem dX9_vote_31 : decode cX9_vote 31 = .ok (.aload_n 0, 1) := by decide +kernel
theorem dX9_vote_32 : decode cX9_vote 32 = .ok (.getfield 10, 3) := by decide +kernel
theorem dX9_vote_35 : decode cX9_vote 35 = .ok (.getfield 69, 3) := by decide +kernel
theorem dX9_vote_38 : decode cX9_vote 38 = .ok (.iload_n 2, 1) := by decide +kernel
theorem dX9_vote_39 : decode cX9_vote 39 = .ok (.aaload, 1) := by decide +kernel
theorem dX9_vote_40 : decode cX9_vote 40 = .ok (.astore 5, 2) := by decide +kernel
theorem dX9_vote_42 : decode cX9_vote 42 = .ok (.aload 5, 2) := by decide +kernel
theorem dX9_vote_44 : decode cX9_vote 44 = .ok (.ifnonnull 15, 3) := by decide +kernel
theorem dX9_vote_47 : decode cX9_vote 47 = .ok (.aload_n 0, 1) := by decide +kernel
theorem dX9_vote_48 : decode cX9_vote 48 = .ok (.getfield 10, 3) := by decide +kernel
theorem dX9_vote_51 : decode cX9_vote 51 = .ok (.iload_n 2, 1) := by decide +kernel
theorem dX9_vote_52 : decode cX9_vote 52 = .ok (.invokevirtual 85, 3) := by decide +kernel
theorem dX9_vote_55 : decode cX9_vote 55 = .ok (.invokestatic 62, 3) := by decide +kernel
theorem dX9_vote_58 : decode cX9_vote 58 = .ok (.ireturn, 1) := by decide +kernel
theorem dX9_vote_59 : decode cX9_vote 59 = .ok (.aload_n 0, 1) := by decide +kernel
theorem dX9_vote_60 : decode cX9_vote 60 = .ok (.getfield 10, 3) := by decide +kernel
theorem dX9_vote_63 : decode cX9_vote 63 = .ok (.getfield 69, 3) := by decide +kernel
theorem dX9_vote_66 : decode cX9_vote 66 = .ok (.iload_n 3, 1) := by decide +kernel
theorem dX9_vote_67 : decode cX9_vote 67 = .ok (.aaload, 1) := by decide +kernel
theorem dX9_vote_68 : decode cX9_vote 68 = .ok (.astore 6, 2) := by decide +kernel
theorem dX9_vote_70 : decode cX9_vote 70 = .ok (.aload 6, 2) := by decide +kernel
theorem dX9_vote_72 : decode cX9_vote 72 = .ok (.ifnonnull 15, 3) := by decide +kernel
theorem dX9_vote_75 : decode cX9_vote 75 = .ok (.aload_n 0, 1) := by decide +kernel
theorem dX9_vote_76 : decode cX9_vote 76 = .ok (.getfield 10, 3) := by decide +kernel
theorem dX9_vote_79 : decode cX9_vote 79 = .ok (.iload_n 3, 1) := by decide +kernel
theorem dX9_vote_80 : decode cX9_vote 80 = .ok (.invokevirtual 85, 3) := by decide +kernel
theorem dX9_vote_83 : decode cX9_vote 83 = .ok (.invokestatic 62, 3) := by decide +kernel
theorem dX9_vote_86 : decode cX9_vote 86 = .ok (.ireturn, 1) := by decide +kernel
theorem dX9_vote_87 : decode cX9_vote 87 = .ok (.aload_n 0, 1) := by decide +kernel
theorem dX9_vote_88 : decode cX9_vote 88 = .ok (.getfield 10, 3) := by decide +kernel
theorem dX9_vote_91 : decode cX9_vote 91 = .ok (.getfield 69, 3) := by decide +kernel
theorem dX9_vote_94 : decode cX9_vote 94 = .ok (.iload 4, 2) := by decide +kernel
theorem dX9_vote_96 : decode cX9_vote 96 = .ok (.aaload, 1) := by decide +kernel
theorem dX9_vote_97 : decode cX9_vote 97 = .ok (.astore 7, 2) := by decide +kernel
theorem dX9_vote_99 : decode cX9_vote 99 = .ok (.aload 7, 2) := by decide +kernel
theorem dX9_vote_101 : decode cX9_vote 101 = .ok (.ifnonnull 16, 3) := by decide +kernel
theorem dX9_vote_104 : decode cX9_vote 104 = .ok (.aload_n 0, 1) := by decide +kernel
theorem dX9_vote_105 : decode cX9_vote 105 = .ok (.getfield 10, 3) := by decide +kernel
theorem dX9_vote_108 : decode cX9_vote 108 = .ok (.iload 4, 2) := by decide +kernel
theorem dX9_vote_110 : decode cX9_vote 110 = .ok (.invokevirtual 85, 3) := by decide +kernel
theorem dX9_vote_113 : decode cX9_vote 113 = .ok (.invokestatic 62, 3) := by decide +kernel
theorem dX9_vote_116 : decode cX9_vote 116 = .ok (.ireturn, 1) := by decide +kernel
theorem dX9_vote_117 : decode cX9_vote 117 = .ok (.aload 5, 2) := by decide +kernel
theorem dX9_vote_119 : decode cX9_vote 119 = .ok (.getfield 88, 3) := by decide +kernel
theorem dX9_vote_122 : decode cX9_vote 122 = .ok (.aload 6, 2) := by decide +kernel
theorem dX9_vote_124 : decode cX9_vote 124 = .ok (.getfield 88, 3) := by decide +kernel
theorem dX9_vote_127 : decode cX9_vote 127 = .ok (.if_icmp .ne 16, 3) := by decide +kernel
theorem dX9_vote_130 : decode cX9_vote 130 = .ok (.aload 5, 2) := by decide +kernel
theorem dX9_vote_132 : decode cX9_vote 132 = .ok (.getfield 88, 3) := by decide +kernel
theorem dX9_vote_135 : decode cX9_vote 135 = .ok (.aload 7, 2) := by decide +kernel
theorem dX9_vote_137 : decode cX9_vote 137 = .ok (.getfield 88, 3) := by decide +kernel
theorem dX9_vote_140 : decode cX9_vote 140 = .ok (.if_icmp .eq 6, 3) := by decide +kernel
theorem dX9_vote_143 : decode cX9_vote 143 = .ok (.bipush (-2), 2) := by decide +kernel
theorem dX9_vote_145 : decode cX9_vote 145 = .ok (.ireturn, 1) := by decide +kernel
theorem dX9_vote_146 : decode cX9_vote 146 = .ok (.aload 5, 2) := by decide +kernel
theorem dX9_vote_148 : decode cX9_vote 148 = .ok (.invokevirtual 140, 3) := by decide +kernel
theorem dX9_vote_151 : decode cX9_vote 151 = .ok (.astore 8, 2) := by decide +kernel
theorem dX9_vote_153 : decode cX9_vote 153 = .ok (.iconst 0, 1) := by decide +kernel
theorem dX9_vote_154 : decode cX9_vote 154 = .ok (.istore 9, 2) := by decide +kernel
theorem dX9_vote_156 : decode cX9_vote 156 = .ok (.iconst 0, 1) := by decide +kernel
theorem dX9_vote_157 : decode cX9_vote 157 = .ok (.istore 10, 2) := by decide +kernel
theorem dX9_vote_159 : decode cX9_vote 159 = .ok (.iload 10, 2) := by decide +kernel
theorem dX9_vote_161 : decode cX9_vote 161 = .ok (.aload 5, 2) := by decide +kernel
theorem dX9_vote_163 : decode cX9_vote 163 = .ok (.getfield 88, 3) := by decide +kernel
theorem dX9_vote_166 : decode cX9_vote 166 = .ok (.if_icmp .ge 99, 3) := by decide +kernel
theorem dX9_vote_169 : decode cX9_vote 169 = .ok (.aload 5, 2) := by decide +kernel
theorem dX9_vote_171 : decode cX9_vote 171 = .ok (.iload 10, 2) := by decide +kernel
theorem dX9_vote_173 : decode cX9_vote 173 = .ok (.aload 6, 2) := by decide +kernel
theorem dX9_vote_175 : decode cX9_vote 175 = .ok (.iload 10, 2) := by decide +kernel
theorem dX9_vote_177 : decode cX9_vote 177 = .ok (.invokestatic 200, 3) := by decide +kernel
theorem dX9_vote_180 : decode cX9_vote 180 = .ok (.ifCond .ne 79, 3) := by decide +kernel
theorem dX9_vote_183 : decode cX9_vote 183 = .ok (.aload 5, 2) := by decide +kernel
theorem dX9_vote_185 : decode cX9_vote 185 = .ok (.iload 10, 2) := by decide +kernel
theorem dX9_vote_187 : decode cX9_vote 187 = .ok (.aload 7, 2) := by decide +kernel
theorem dX9_vote_189 : decode cX9_vote 189 = .ok (.iload 10, 2) := by decide +kernel
theorem dX9_vote_191 : decode cX9_vote 191 = .ok (.invokestatic 200, 3) := by decide +kernel
theorem dX9_vote_194 : decode cX9_vote 194 = .ok (.ifCond .eq 6, 3) := by decide +kernel
theorem dX9_vote_197 : decode cX9_vote 197 = .ok (.goto 62, 3) := by decide +kernel
theorem dX9_vote_200 : decode cX9_vote 200 = .ok (.aload 6, 2) := by decide +kernel
theorem dX9_vote_202 : decode cX9_vote 202 = .ok (.iload 10, 2) := by decide +kernel
theorem dX9_vote_204 : decode cX9_vote 204 = .ok (.aload 7, 2) := by decide +kernel
theorem dX9_vote_206 : decode cX9_vote 206 = .ok (.iload 10, 2) := by decide +kernel
theorem dX9_vote_208 : decode cX9_vote 208 = .ok (.invokestatic 200, 3) := by decide +kernel
theorem dX9_vote_211 : decode cX9_vote 211 = .ok (.ifCond .ne 9, 3) := by decide +kernel
theorem dX9_vote_214 : decode cX9_vote 214 = .ok (.iinc 9 1, 3) := by decide +kernel
theorem dX9_vote_217 : decode cX9_vote 217 = .ok (.goto 42, 3) := by decide +kernel
theorem dX9_vote_220 : decode cX9_vote 220 = .ok (.aload 6, 2) := by decide +kernel
theorem dX9_vote_222 : decode cX9_vote 222 = .ok (.getfield 107, 3) := by decide +kernel
theorem dX9_vote_225 : decode cX9_vote 225 = .ok (.iload 10, 2) := by decide +kernel
theorem dX9_vote_227 : decode cX9_vote 227 = .ok (.iaload, 1) := by decide +kernel
theorem dX9_vote_228 : decode cX9_vote 228 = .ok (.aload 8, 2) := by decide +kernel
theorem dX9_vote_230 : decode cX9_vote 230 = .ok (.getfield 77, 3) := by decide +kernel
theorem dX9_vote_233 : decode cX9_vote 233 = .ok (.invokestatic 204, 3) := by decide +kernel
theorem dX9_vote_236 : decode cX9_vote 236 = .ok (.ifCond .eq 17, 3) := by decide +kernel
theorem dX9_vote_239 : decode cX9_vote 239 = .ok (.aload 8, 2) := by decide +kernel
theorem dX9_vote_241 : decode cX9_vote 241 = .ok (.iload 10, 2) := by decide +kernel
theorem dX9_vote_243 : decode cX9_vote 243 = .ok (.aload 6, 2) := by decide +kernel
theorem dX9_vote_245 : decode cX9_vote 245 = .ok (.iload 10, 2) := by decide +kernel
theorem dX9_vote_247 : decode cX9_vote 247 = .ok (.invokevirtual 210, 3) := by decide +kernel
theorem dX9_vote_250 : decode cX9_vote 250 = .ok (.goto 9, 3) := by decide +kernel
theorem dX9_vote_253 : decode cX9_vote 253 = .ok (.bipush (-20), 2) := by decide +kernel
theorem dX9_vote_255 : decode cX9_vote 255 = .ok (.iload 10, 2) := by decide +kernel
theorem dX9_vote_257 : decode cX9_vote 257 = .ok (.isub, 1) := by decide +kernel
theorem dX9_vote_258 : decode cX9_vote 258 = .ok (.ireturn, 1) := by decide +kernel
theorem dX9_vote_259 : decode cX9_vote 259 = .ok (.iinc 10 1, 3) := by decide +kernel
theorem dX9_vote_262 : decode cX9_vote 262 = .ok (.goto (-103), 3) := by decide +kernel
theorem dX9_vote_265 : decode cX9_vote 265 = .ok (.aload_n 0, 1) := by decide +kernel
theorem dX9_vote_266 : decode cX9_vote 266 = .ok (.getfield 10, 3) := by decide +kernel
theorem dX9_vote_269 : decode cX9_vote 269 = .ok (.iload_n 1, 1) := by decide +kernel
theorem dX9_vote_270 : decode cX9_vote 270 = .ok (.aload 8, 2) := by decide +kernel
theorem dX9_vote_272 : decode cX9_vote 272 = .ok (.invokevirtual 54, 3) := by decide +kernel
theorem dX9_vote_275 : decode cX9_vote 275 = .ok (.iload 9, 2) := by decide +kernel
theorem dX9_vote_277 : decode cX9_vote 277 = .ok (.ireturn, 1) := by decide +kernel
theorem dX9_patch_0 : decode cX9_patch 0 = .ok (.iload_n 1, 1) := by decide +kernel
theorem dX9_patch_1 : decode cX9_patch 1 = .ok (.invokestatic 214, 3) := by decide +kernel
theorem dX9_patch_4 : decode cX9_patch 4 = .ok (.ifCond .ne 5, 3) := by decide +kernel
theorem dX9_patch_7 : decode cX9_patch 7 = .ok (.iconst (-1), 1) := by decide +kernel
theorem dX9_patch_8 : decode cX9_patch 8 = .ok (.ireturn, 1) := by decide +kernel
theorem dX9_patch_9 : decode cX9_patch 9 = .ok (.aload_n 0, 1) := by decide +kernel
theorem dX9_patch_10 : decode cX9_patch 10 = .ok (.getfield 147, 3) := by decide +kernel
theorem dX9_patch_13 : decode cX9_patch 13 = .ok (.ifnonnull 6, 3) := by decide +kernel
theorem dX9_patch_16 : decode cX9_patch 16 = .ok (.bipush (-2), 2) := by decide +kernel
theorem dX9_patch_18 : decode cX9_patch 18 = .ok (.ireturn, 1) := by decide +kernel
theorem dX9_patch_19 : decode cX9_patch 19 = .ok (.new 20, 3) := by decide +kernel
theorem dX9_patch_22 : decode cX9_patch 22 = .ok (.dup, 1) := by decide +kernel
theorem dX9_patch_23 : decode cX9_patch 23 = .ok (.aload_n 0, 1) := by decide +kernel
theorem dX9_patch_24 : decode cX9_patch 24 = .ok (.getfield 147, 3) := by decide +kernel
theorem dX9_patch_27 : decode cX9_patch 27 = .ok (.invokespecial 217, 3) := by decide +kernel
theorem dX9_patch_30 : decode cX9_patch 30 = .ok (.astore_n 2, 1) := by decide +kernel
theorem dX9_patch_31 : decode cX9_patch 31 = .ok (.aload_n 0, 1) := by decide +kernel
theorem dX9_patch_32 : decode cX9_patch 32 = .ok (.getfield 22, 3) := by decide +kernel
theorem dX9_patch_35 : decode cX9_patch 35 = .ok (.iload_n 1, 1) := by decide +kernel
theorem dX9_patch_36 : decode cX9_patch 36 = .ok (.aload_n 2, 1) := by decide +kernel
theorem dX9_patch_37 : decode cX9_patch 37 = .ok (.aastore, 1) := by decide +kernel
theorem dX9_patch_38 : decode cX9_patch 38 = .ok (.aload_n 2, 1) := by decide +kernel
theorem dX9_patch_39 : decode cX9_patch 39 = .ok (.getfield 220, 3) := by decide +kernel
theorem dX9_patch_42 : decode cX9_patch 42 = .ok (.aload_n 2, 1) := by decide +kernel
theorem dX9_patch_43 : decode cX9_patch 43 = .ok (.iconst 0, 1) := by decide +kernel
theorem dX9_patch_44 : decode cX9_patch 44 = .ok (.invokevirtual 221, 3) := by decide +kernel
theorem dX9_patch_47 : decode cX9_patch 47 = .ok (.isub, 1) := by decide +kernel
theorem dX9_patch_48 : decode cX9_patch 48 = .ok (.ireturn, 1) := by decide +kernel
theorem dX9_turn_0 : decode cX9_turn 0 = .ok (.iload_n 1, 1) := by decide +kernel
theorem dX9_turn_1 : decode cX9_turn 1 = .ok (.invokestatic 214, 3) := by decide +kernel
theorem dX9_turn_4 : decode cX9_turn 4 = .ok (.ifCond .ne 5, 3) := by decide +kernel
theorem dX9_turn_7 : decode cX9_turn 7 = .ok (.iconst (-1), 1) := by decide +kernel
theorem dX9_turn_8 : decode cX9_turn 8 = .ok (.ireturn, 1) := by decide +kernel
theorem dX9_turn_9 : decode cX9_turn 9 = .ok (.aload_n 0, 1) := by decide +kernel
theorem dX9_turn_10 : decode cX9_turn 10 = .ok (.getfield 22, 3) := by decide +kernel
theorem dX9_turn_13 : decode cX9_turn 13 = .ok (.iload_n 1, 1) := by decide +kernel
theorem dX9_turn_14 : decode cX9_turn 14 = .ok (.aaload, 1) := by decide +kernel
theorem dX9_turn_15 : decode cX9_turn 15 = .ok (.astore_n 2, 1) := by decide +kernel
theorem dX9_turn_16 : decode cX9_turn 16 = .ok (.aload_n 2, 1) := by decide +kernel
theorem dX9_turn_17 : decode cX9_turn 17 = .ok (.ifnonnull 6, 3) := by decide +kernel
theorem dX9_turn_20 : decode cX9_turn 20 = .ok (.bipush (-2), 2) := by decide +kernel
theorem dX9_turn_22 : decode cX9_turn 22 = .ok (.ireturn, 1) := by decide +kernel
theorem dX9_turn_23 : decode cX9_turn 23 = .ok (.aload_n 2, 1) := by decide +kernel
theorem dX9_turn_24 : decode cX9_turn 24 = .ok (.invokevirtual 224, 3) := by decide +kernel
theorem dX9_turn_27 : decode cX9_turn 27 = .ok (.aload_n 2, 1) := by decide +kernel
theorem dX9_turn_28 : decode cX9_turn 28 = .ok (.getfield 220, 3) := by decide +kernel
theorem dX9_turn_31 : decode cX9_turn 31 = .ok (.ireturn, 1) := by decide +kernel
theorem dX9_act_0 : decode cX9_act 0 = .ok (.iload_n 1, 1) := by decide +kernel
theorem dX9_act_1 : decode cX9_act 1 = .ok (.invokestatic 214, 3) := by decide +kernel
theorem dX9_act_4 : decode cX9_act 4 = .ok (.ifCond .eq 16, 3) := by decide +kernel
theorem dX9_act_7 : decode cX9_act 7 = .ok (.iload_n 2, 1) := by decide +kernel
theorem dX9_act_8 : decode cX9_act 8 = .ok (.ifCond .lt 12, 3) := by decide +kernel
theorem dX9_act_11 : decode cX9_act 11 = .ok (.iload_n 3, 1) := by decide +kernel
theorem dX9_act_12 : decode cX9_act 12 = .ok (.iconst 0, 1) := by decide +kernel
theorem dX9_act_13 : decode cX9_act 13 = .ok (.iconst 2, 1) := by decide +kernel
theorem dX9_act_14 : decode cX9_act 14 = .ok (.invokestatic 50, 3) := by decide +kernel
theorem dX9_act_17 : decode cX9_act 17 = .ok (.ifCond .ne 5, 3) := by decide +kernel
theorem dX9_act_20 : decode cX9_act 20 = .ok (.iconst (-1), 1) := by decide +kernel
theorem dX9_act_21 : decode cX9_act 21 = .ok (.ireturn, 1) := by decide +kernel
theorem dX9_act_22 : decode cX9_act 22 = .ok (.aload_n 0, 1) := by decide +kernel
theorem dX9_act_23 : decode cX9_act 23 = .ok (.getfield 22, 3) := by decide +kernel
theorem dX9_act_26 : decode cX9_act 26 = .ok (.iload_n 1, 1) := by decide +kernel
theorem dX9_act_27 : decode cX9_act 27 = .ok (.aaload, 1) := by decide +kernel
theorem dX9_act_28 : decode cX9_act 28 = .ok (.astore 4, 2) := by decide +kernel
theorem dX9_act_30 : decode cX9_act 30 = .ok (.aload 4, 2) := by decide +kernel
theorem dX9_act_32 : decode cX9_act 32 = .ok (.ifnonnull 6, 3) := by decide +kernel
theorem dX9_act_35 : decode cX9_act 35 = .ok (.bipush (-2), 2) := by decide +kernel
theorem dX9_act_37 : decode cX9_act 37 = .ok (.ireturn, 1) := by decide +kernel
theorem dX9_act_38 : decode cX9_act 38 = .ok (.iload_n 2, 1) := by decide +kernel
theorem dX9_act_39 : decode cX9_act 39 = .ok (.aload 4, 2) := by decide +kernel
theorem dX9_act_41 : decode cX9_act 41 = .ok (.getfield 220, 3) := by decide +kernel
theorem dX9_act_44 : decode cX9_act 44 = .ok (.if_icmp .lt 6, 3) := by decide +kernel
theorem dX9_act_47 : decode cX9_act 47 = .ok (.bipush (-4), 2) := by decide +kernel
theorem dX9_act_49 : decode cX9_act 49 = .ok (.ireturn, 1) := by decide +kernel
theorem dX9_act_50 : decode cX9_act 50 = .ok (.iload_n 3, 1) := by decide +kernel
theorem dX9_act_51 : decode cX9_act 51 = .ok (.ifCond .ne 11, 3) := by decide +kernel
theorem dX9_act_54 : decode cX9_act 54 = .ok (.aload 4, 2) := by decide +kernel
theorem dX9_act_56 : decode cX9_act 56 = .ok (.getfield 227, 3) := by decide +kernel
theorem dX9_act_59 : decode cX9_act 59 = .ok (.iload_n 2, 1) := by decide +kernel
theorem dX9_act_60 : decode cX9_act 60 = .ok (.iaload, 1) := by decide +kernel
theorem dX9_act_61 : decode cX9_act 61 = .ok (.ireturn, 1) := by decide +kernel
theorem dX9_act_62 : decode cX9_act 62 = .ok (.iload_n 3, 1) := by decide +kernel
theorem dX9_act_63 : decode cX9_act 63 = .ok (.iconst 1, 1) := by decide +kernel
theorem dX9_act_64 : decode cX9_act 64 = .ok (.if_icmp .ne 28, 3) := by decide +kernel
theorem dX9_act_67 : decode cX9_act 67 = .ok (.aload 4, 2) := by decide +kernel
theorem dX9_act_69 : decode cX9_act 69 = .ok (.iload_n 2, 1) := by decide +kernel
theorem dX9_act_70 : decode cX9_act 70 = .ok (.invokevirtual 230, 3) := by decide +kernel
theorem dX9_act_73 : decode cX9_act 73 = .ok (.ifCond .eq 16, 3) := by decide +kernel
theorem dX9_act_76 : decode cX9_act 76 = .ok (.aload 4, 2) := by decide +kernel
theorem dX9_act_78 : decode cX9_act 78 = .ok (.getfield 233, 3) := by decide +kernel
theorem dX9_act_81 : decode cX9_act 81 = .ok (.getfield 107, 3) := by decide +kernel
theorem dX9_act_84 : decode cX9_act 84 = .ok (.iload_n 2, 1) := by decide +kernel
theorem dX9_act_85 : decode cX9_act 85 = .ok (.iaload, 1) := by decide +kernel
theorem dX9_act_86 : decode cX9_act 86 = .ok (.goto 5, 3) := by decide +kernel
theorem dX9_act_89 : decode cX9_act 89 = .ok (.bipush (-4), 2) := by decide +kernel
theorem dX9_act_91 : decode cX9_act 91 = .ok (.ireturn, 1) := by decide +kernel
theorem dX9_act_92 : decode cX9_act 92 = .ok (.aload 4, 2) := by decide +kernel
theorem dX9_act_94 : decode cX9_act 94 = .ok (.iload_n 2, 1) := by decide +kernel
theorem dX9_act_95 : decode cX9_act 95 = .ok (.invokevirtual 236, 3) := by decide +kernel
theorem dX9_act_98 : decode cX9_act 98 = .ok (.ifCond .eq 16, 3) := by decide +kernel
theorem dX9_act_101 : decode cX9_act 101 = .ok (.aload 4, 2) := by decide +kernel
theorem dX9_act_103 : decode cX9_act 103 = .ok (.getfield 239, 3) := by decide +kernel
theorem dX9_act_106 : decode cX9_act 106 = .ok (.getfield 107, 3) := by decide +kernel
theorem dX9_act_109 : decode cX9_act 109 = .ok (.iload_n 2, 1) := by decide +kernel
theorem dX9_act_110 : decode cX9_act 110 = .ok (.iaload, 1) := by decide +kernel
theorem dX9_act_111 : decode cX9_act 111 = .ok (.goto 5, 3) := by decide +kernel
theorem dX9_act_114 : decode cX9_act 114 = .ok (.bipush (-4), 2) := by decide +kernel
theorem dX9_act_116 : decode cX9_act 116 = .ok (.ireturn, 1) := by decide +kernel
theorem dX9_apply_0 : decode cX9_apply 0 = .ok (.iload_n 1, 1) := by decide +kernel
theorem dX9_apply_1 : decode cX9_apply 1 = .ok (.invokestatic 214, 3) := by decide +kernel
theorem dX9_apply_4 : decode cX9_apply 4 = .ok (.ifCond .eq 10, 3) := by decide +kernel
theorem dX9_apply_7 : decode cX9_apply 7 = .ok (.iload_n 2, 1) := by decide +kernel
theorem dX9_apply_8 : decode cX9_apply 8 = .ok (.invokestatic 46, 3) := by decide +kernel
theorem dX9_apply_11 : decode cX9_apply 11 = .ok (.ifCond .ne 5, 3) := by decide +kernel
theorem dX9_apply_14 : decode cX9_apply 14 = .ok (.iconst (-1), 1) := by decide +kernel
theorem dX9_apply_15 : decode cX9_apply 15 = .ok (.ireturn, 1) := by decide +kernel
theorem dX9_apply_16 : decode cX9_apply 16 = .ok (.aload_n 0, 1) := by decide +kernel
theorem dX9_apply_17 : decode cX9_apply 17 = .ok (.getfield 22, 3) := by decide +kernel
theorem dX9_apply_20 : decode cX9_apply 20 = .ok (.iload_n 1, 1) := by decide +kernel
theorem dX9_apply_21 : decode cX9_apply 21 = .ok (.aaload, 1) := by decide +kernel
theorem dX9_apply_22 : decode cX9_apply 22 = .ok (.astore_n 3, 1) := by decide +kernel
theorem dX9_apply_23 : decode cX9_apply 23 = .ok (.aload_n 3, 1) := by decide +kernel
theorem dX9_apply_24 : decode cX9_apply 24 = .ok (.ifnonnull 6, 3) := by decide +kernel
theorem dX9_apply_27 : decode cX9_apply 27 = .ok (.bipush (-2), 2) := by decide +kernel
theorem dX9_apply_29 : decode cX9_apply 29 = .ok (.ireturn, 1) := by decide +kernel
theorem dX9_apply_30 : decode cX9_apply 30 = .ok (.aload_n 0, 1) := by decide +kernel
theorem dX9_apply_31 : decode cX9_apply 31 = .ok (.getfield 10, 3) := by decide +kernel
theorem dX9_apply_34 : decode cX9_apply 34 = .ok (.getfield 69, 3) := by decide +kernel
theorem dX9_apply_37 : decode cX9_apply 37 = .ok (.iload_n 2, 1) := by decide +kernel
theorem dX9_apply_38 : decode cX9_apply 38 = .ok (.aaload, 1) := by decide +kernel
theorem dX9_apply_39 : decode cX9_apply 39 = .ok (.astore 4, 2) := by decide +kernel
theorem dX9_apply_41 : decode cX9_apply 41 = .ok (.aload 4, 2) := by decide +kernel
theorem dX9_apply_43 : decode cX9_apply 43 = .ok (.ifnonnull 15, 3) := by decide +kernel
theorem dX9_apply_46 : decode cX9_apply 46 = .ok (.aload_n 0, 1) := by decide +kernel
theorem dX9_apply_47 : decode cX9_apply 47 = .ok (.getfield 10, 3) := by decide +kernel
theorem dX9_apply_50 : decode cX9_apply 50 = .ok (.iload_n 2, 1) := by decide +kernel
theorem dX9_apply_51 : decode cX9_apply 51 = .ok (.invokevirtual 85, 3) := by decide +kernel
theorem dX9_apply_54 : decode cX9_apply 54 = .ok (.invokestatic 62, 3) := by decide +kernel
theorem dX9_apply_57 : decode cX9_apply 57 = .ok (.ireturn, 1) := by decide +kernel
theorem dX9_apply_58 : decode cX9_apply 58 = .ok (.new 242, 3) := by decide +kernel
theorem dX9_apply_61 : decode cX9_apply 61 = .ok (.dup, 1) := by decide +kernel
theorem dX9_apply_62 : decode cX9_apply 62 = .ok (.aload_n 3, 1) := by decide +kernel
theorem dX9_apply_63 : decode cX9_apply 63 = .ok (.aload 4, 2) := by decide +kernel
theorem dX9_apply_65 : decode cX9_apply 65 = .ok (.invokespecial 244, 3) := by decide +kernel
theorem dX9_apply_68 : decode cX9_apply 68 = .ok (.astore 5, 2) := by decide +kernel
theorem dX9_apply_70 : decode cX9_apply 70 = .ok (.aload 5, 2) := by decide +kernel
theorem dX9_apply_72 : decode cX9_apply 72 = .ok (.invokevirtual 247, 3) := by decide +kernel
theorem dX9_apply_75 : decode cX9_apply 75 = .ok (.istore 6, 2) := by decide +kernel
theorem dX9_apply_77 : decode cX9_apply 77 = .ok (.aload_n 0, 1) := by decide +kernel
theorem dX9_apply_78 : decode cX9_apply 78 = .ok (.aload 5, 2) := by decide +kernel
theorem dX9_apply_80 : decode cX9_apply 80 = .ok (.getfield 250, 3) := by decide +kernel
theorem dX9_apply_83 : decode cX9_apply 83 = .ok (.putfield 121, 3) := by decide +kernel
theorem dX9_apply_86 : decode cX9_apply 86 = .ok (.aload_n 0, 1) := by decide +kernel
theorem dX9_apply_87 : decode cX9_apply 87 = .ok (.getfield 121, 3) := by decide +kernel
theorem dX9_apply_90 : decode cX9_apply 90 = .ok (.ifCond .eq 9, 3) := by decide +kernel
theorem dX9_apply_93 : decode cX9_apply 93 = .ok (.bipush (-20), 2) := by decide +kernel
theorem dX9_apply_95 : decode cX9_apply 95 = .ok (.iload 6, 2) := by decide +kernel
theorem dX9_apply_97 : decode cX9_apply 97 = .ok (.isub, 1) := by decide +kernel
theorem dX9_apply_98 : decode cX9_apply 98 = .ok (.ireturn, 1) := by decide +kernel
theorem dX9_apply_99 : decode cX9_apply 99 = .ok (.aload_n 0, 1) := by decide +kernel
theorem dX9_apply_100 : decode cX9_apply 100 = .ok (.getfield 10, 3) := by decide +kernel
theorem dX9_apply_103 : decode cX9_apply 103 = .ok (.iload_n 2, 1) := by decide +kernel
theorem dX9_apply_104 : decode cX9_apply 104 = .ok (.aload 5, 2) := by decide +kernel
theorem dX9_apply_106 : decode cX9_apply 106 = .ok (.getfield 253, 3) := by decide +kernel
theorem dX9_apply_109 : decode cX9_apply 109 = .ok (.invokevirtual 54, 3) := by decide +kernel
theorem dX9_apply_112 : decode cX9_apply 112 = .ok (.aload 5, 2) := by decide +kernel
theorem dX9_apply_114 : decode cX9_apply 114 = .ok (.getfield 253, 3) := by decide +kernel
theorem dX9_apply_117 : decode cX9_apply 117 = .ok (.getfield 88, 3) := by decide +kernel
theorem dX9_apply_120 : decode cX9_apply 120 = .ok (.ireturn, 1) := by decide +kernel
theorem dX9_log_0 : decode cX9_log 0 = .ok (.iload_n 1, 1) := by decide +kernel
theorem dX9_log_1 : decode cX9_log 1 = .ok (.invokestatic 46, 3) := by decide +kernel
theorem dX9_log_4 : decode cX9_log 4 = .ok (.ifCond .eq 20, 3) := by decide +kernel
theorem dX9_log_7 : decode cX9_log 7 = .ok (.iload_n 2, 1) := by decide +kernel
theorem dX9_log_8 : decode cX9_log 8 = .ok (.invokestatic 46, 3) := by decide +kernel
theorem dX9_log_11 : decode cX9_log 11 = .ok (.ifCond .eq 13, 3) := by decide +kernel
theorem dX9_log_14 : decode cX9_log 14 = .ok (.iload_n 3, 1) := by decide +kernel
theorem dX9_log_15 : decode cX9_log 15 = .ok (.iconst 0, 1) := by decide +kernel
theorem dX9_log_16 : decode cX9_log 16 = .ok (.bipush 7, 2) := by decide +kernel
theorem dX9_log_18 : decode cX9_log 18 = .ok (.invokestatic 50, 3) := by decide +kernel
theorem dX9_log_21 : decode cX9_log 21 = .ok (.ifCond .ne 5, 3) := by decide +kernel
theorem dX9_log_24 : decode cX9_log 24 = .ok (.iconst (-1), 1) := by decide +kernel
theorem dX9_log_25 : decode cX9_log 25 = .ok (.ireturn, 1) := by decide +kernel
theorem dX9_log_26 : decode cX9_log 26 = .ok (.aload_n 0, 1) := by decide +kernel
theorem dX9_log_27 : decode cX9_log 27 = .ok (.getfield 10, 3) := by decide +kernel
theorem dX9_log_30 : decode cX9_log 30 = .ok (.getfield 69, 3) := by decide +kernel
theorem dX9_log_33 : decode cX9_log 33 = .ok (.iload_n 2, 1) := by decide +kernel
theorem dX9_log_34 : decode cX9_log 34 = .ok (.aaload, 1) := by decide +kernel
theorem dX9_log_35 : decode cX9_log 35 = .ok (.astore 5, 2) := by decide +kernel
theorem dX9_log_37 : decode cX9_log 37 = .ok (.aload 5, 2) := by decide +kernel
theorem dX9_log_39 : decode cX9_log 39 = .ok (.ifnonnull 15, 3) := by decide +kernel
theorem dX9_log_42 : decode cX9_log 42 = .ok (.aload_n 0, 1) := by decide +kernel
theorem dX9_log_43 : decode cX9_log 43 = .ok (.getfield 10, 3) := by decide +kernel
theorem dX9_log_46 : decode cX9_log 46 = .ok (.iload_n 2, 1) := by decide +kernel
theorem dX9_log_47 : decode cX9_log 47 = .ok (.invokevirtual 85, 3) := by decide +kernel
theorem dX9_log_50 : decode cX9_log 50 = .ok (.invokestatic 62, 3) := by decide +kernel
theorem dX9_log_53 : decode cX9_log 53 = .ok (.ireturn, 1) := by decide +kernel
theorem dX9_log_54 : decode cX9_log 54 = .ok (.aload 5, 2) := by decide +kernel
theorem dX9_log_56 : decode cX9_log 56 = .ok (.iload_n 3, 1) := by decide +kernel
theorem dX9_log_57 : decode cX9_log 57 = .ok (.invokestatic 95, 3) := by decide +kernel
theorem dX9_log_60 : decode cX9_log 60 = .ok (.istore 6, 2) := by decide +kernel
theorem dX9_log_62 : decode cX9_log 62 = .ok (.iload 6, 2) := by decide +kernel
theorem dX9_log_64 : decode cX9_log 64 = .ok (.ifCond .eq 9, 3) := by decide +kernel
theorem dX9_log_67 : decode cX9_log 67 = .ok (.iload 6, 2) := by decide +kernel
theorem dX9_log_69 : decode cX9_log 69 = .ok (.invokestatic 62, 3) := by decide +kernel
theorem dX9_log_72 : decode cX9_log 72 = .ok (.ireturn, 1) := by decide +kernel
theorem dX9_log_73 : decode cX9_log 73 = .ok (.aload 5, 2) := by decide +kernel
theorem dX9_log_75 : decode cX9_log 75 = .ok (.getfield 88, 3) := by decide +kernel
theorem dX9_log_78 : decode cX9_log 78 = .ok (.iload 4, 2) := by decide +kernel
theorem dX9_log_80 : decode cX9_log 80 = .ok (.invokestatic 256, 3) := by decide +kernel
theorem dX9_log_83 : decode cX9_log 83 = .ok (.istore 7, 2) := by decide +kernel
theorem dX9_log_85 : decode cX9_log 85 = .ok (.iload 7, 2) := by decide +kernel
theorem dX9_log_87 : decode cX9_log 87 = .ok (.bipush 20, 2) := by decide +kernel
theorem dX9_log_89 : decode cX9_log 89 = .ok (.if_icmp .le 6, 3) := by decide +kernel
theorem dX9_log_92 : decode cX9_log 92 = .ok (.bipush (-3), 2) := by decide +kernel
theorem dX9_log_94 : decode cX9_log 94 = .ok (.ireturn, 1) := by decide +kernel
theorem dX9_log_95 : decode cX9_log 95 = .ok (.aload_n 0, 1) := by decide +kernel
theorem dX9_log_96 : decode cX9_log 96 = .ok (.getfield 10, 3) := by decide +kernel
theorem dX9_log_99 : decode cX9_log 99 = .ok (.iload_n 1, 1) := by decide +kernel
theorem dX9_log_100 : decode cX9_log 100 = .ok (.aload_n 0, 1) := by decide +kernel
theorem dX9_log_101 : decode cX9_log 101 = .ok (.aload 5, 2) := by decide +kernel
theorem dX9_log_103 : decode cX9_log 103 = .ok (.new 37, 3) := by decide +kernel
theorem dX9_log_106 : decode cX9_log 106 = .ok (.dup, 1) := by decide +kernel
theorem dX9_log_107 : decode cX9_log 107 = .ok (.iload_n 3, 1) := by decide +kernel
theorem dX9_log_108 : decode cX9_log 108 = .ok (.iload 7, 2) := by decide +kernel
theorem dX9_log_110 : decode cX9_log 110 = .ok (.invokespecial 39, 3) := by decide +kernel
theorem dX9_log_113 : decode cX9_log 113 = .ok (.iload 4, 2) := by decide +kernel
theorem dX9_log_115 : decode cX9_log 115 = .ok (.invokevirtual 259, 3) := by decide +kernel
theorem dX9_log_118 : decode cX9_log 118 = .ok (.invokevirtual 54, 3) := by decide +kernel
theorem dX9_log_121 : decode cX9_log 121 = .ok (.iload 7, 2) := by decide +kernel
theorem dX9_log_123 : decode cX9_log 123 = .ok (.ireturn, 1) := by decide +kernel
theorem dX9_draw_0 : decode cX9_draw 0 = .ok (.iload_n 1, 1) := by decide +kernel
theorem dX9_draw_1 : decode cX9_draw 1 = .ok (.invokestatic 46, 3) := by decide +kernel
theorem dX9_draw_4 : decode cX9_draw 4 = .ok (.ifCond .eq 23, 3) := by decide +kernel
theorem dX9_draw_7 : decode cX9_draw 7 = .ok (.iload_n 2, 1) := by decide +kernel
theorem dX9_draw_8 : decode cX9_draw 8 = .ok (.iconst 0, 1) := by decide +kernel
theorem dX9_draw_9 : decode cX9_draw 9 = .ok (.bipush 10, 2) := by decide +kernel
theorem dX9_draw_11 : decode cX9_draw 11 = .ok (.invokestatic 50, 3) := by decide +kernel
theorem dX9_draw_14 : decode cX9_draw 14 = .ok (.ifCond .eq 13, 3) := by decide +kernel
theorem dX9_draw_17 : decode cX9_draw 17 = .ok (.iload_n 3, 1) := by decide +kernel
theorem dX9_draw_18 : decode cX9_draw 18 = .ok (.iconst 0, 1) := by decide +kernel
theorem dX9_draw_19 : decode cX9_draw 19 = .ok (.bipush 20, 2) := by decide +kernel
theorem dX9_draw_21 : decode cX9_draw 21 = .ok (.invokestatic 50, 3) := by decide +kernel
theorem dX9_draw_24 : decode cX9_draw 24 = .ok (.ifCond .ne 5, 3) := by decide +kernel
theorem dX9_draw_27 : decode cX9_draw 27 = .ok (.iconst (-1), 1) := by decide +kernel
theorem dX9_draw_28 : decode cX9_draw 28 = .ok (.ireturn, 1) := by decide +kernel
theorem dX9_draw_29 : decode cX9_draw 29 = .ok (.new 37, 3) := by decide +kernel
theorem dX9_draw_32 : decode cX9_draw 32 = .ok (.dup, 1) := by decide +kernel
theorem dX9_draw_33 : decode cX9_draw 33 = .ok (.iload_n 2, 1) := by decide +kernel
theorem dX9_draw_34 : decode cX9_draw 34 = .ok (.iload_n 3, 1) := by decide +kernel
theorem dX9_draw_35 : decode cX9_draw 35 = .ok (.invokespecial 39, 3) := by decide +kernel
theorem dX9_draw_38 : decode cX9_draw 38 = .ok (.astore 5, 2) := by decide +kernel
theorem dX9_draw_40 : decode cX9_draw 40 = .ok (.iload 4, 2) := by decide +kernel
theorem dX9_draw_42 : decode cX9_draw 42 = .ok (.istore 6, 2) := by decide +kernel
theorem dX9_draw_44 : decode cX9_draw 44 = .ok (.iconst 0, 1) := by decide +kernel
theorem dX9_draw_45 : decode cX9_draw 45 = .ok (.istore 7, 2) := by decide +kernel
theorem dX9_draw_47 : decode cX9_draw 47 = .ok (.iload 7, 2) := by decide +kernel
theorem dX9_draw_49 : decode cX9_draw 49 = .ok (.iload_n 3, 1) := by decide +kernel
theorem dX9_draw_50 : decode cX9_draw 50 = .ok (.if_icmp .ge 99, 3) := by decide +kernel
theorem dX9_draw_53 : decode cX9_draw 53 = .ok (.iload 6, 2) := by decide +kernel
theorem dX9_draw_55 : decode cX9_draw 55 = .ok (.invokestatic 263, 3) := by decide +kernel
theorem dX9_draw_58 : decode cX9_draw 58 = .ok (.istore 6, 2) := by decide +kernel
theorem dX9_draw_60 : decode cX9_draw 60 = .ok (.iload 6, 2) := by decide +kernel
theorem dX9_draw_62 : decode cX9_draw 62 = .ok (.invokestatic 266, 3) := by decide +kernel
theorem dX9_draw_65 : decode cX9_draw 65 = .ok (.istore 8, 2) := by decide +kernel
theorem dX9_draw_67 : decode cX9_draw 67 = .ok (.iload 8, 2) := by decide +kernel
theorem dX9_draw_69 : decode cX9_draw 69 = .ok (.bipush 16, 2) := by decide +kernel
theorem dX9_draw_71 : decode cX9_draw 71 = .ok (.idiv, 1) := by decide +kernel
theorem dX9_draw_72 : decode cX9_draw 72 = .ok (.bipush 64, 2) := by decide +kernel
theorem dX9_draw_74 : decode cX9_draw 74 = .ok (.irem, 1) := by decide +kernel
theorem dX9_draw_75 : decode cX9_draw 75 = .ok (.bipush 8, 2) := by decide +kernel
theorem dX9_draw_77 : decode cX9_draw 77 = .ok (.isub, 1) := by decide +kernel
theorem dX9_draw_78 : decode cX9_draw 78 = .ok (.istore 9, 2) := by decide +kernel
theorem dX9_draw_80 : decode cX9_draw 80 = .ok (.iload_n 2, 1) := by decide +kernel
theorem dX9_draw_81 : decode cX9_draw 81 = .ok (.bipush 9, 2) := by decide +kernel
theorem dX9_draw_83 : decode cX9_draw 83 = .ok (.if_icmp .ne 11, 3) := by decide +kernel
theorem dX9_draw_86 : decode cX9_draw 86 = .ok (.iload 8, 2) := by decide +kernel
theorem dX9_draw_88 : decode cX9_draw 88 = .ok (.bipush 11, 2) := by decide +kernel
theorem dX9_draw_90 : decode cX9_draw 90 = .ok (.irem, 1) := by decide +kernel
theorem dX9_draw_91 : decode cX9_draw 91 = .ok (.goto 4, 3) := by decide +kernel
theorem dX9_draw_94 : decode cX9_draw 94 = .ok (.iload_n 2, 1) := by decide +kernel
theorem dX9_draw_95 : decode cX9_draw 95 = .ok (.istore 10, 2) := by decide +kernel
theorem dX9_draw_97 : decode cX9_draw 97 = .ok (.iload 10, 2) := by decide +kernel
theorem dX9_draw_99 : decode cX9_draw 99 = .ok (.iconst 5, 1) := by decide +kernel
theorem dX9_draw_100 : decode cX9_draw 100 = .ok (.if_icmp .ne 32, 3) := by decide +kernel
theorem dX9_draw_103 : decode cX9_draw 103 = .ok (.iload 8, 2) := by decide +kernel
theorem dX9_draw_105 : decode cX9_draw 105 = .ok (.bipush 16, 2) := by decide +kernel
theorem dX9_draw_107 : decode cX9_draw 107 = .ok (.idiv, 1) := by decide +kernel
theorem dX9_draw_108 : decode cX9_draw 108 = .ok (.iconst 2, 1) := by decide +kernel
theorem dX9_draw_109 : decode cX9_draw 109 = .ok (.irem, 1) := by decide +kernel
theorem dX9_draw_110 : decode cX9_draw 110 = .ok (.iconst 1, 1) := by decide +kernel
theorem dX9_draw_111 : decode cX9_draw 111 = .ok (.if_icmp .ne 21, 3) := by decide +kernel
theorem dX9_draw_114 : decode cX9_draw 114 = .ok (.aload 5, 2) := by decide +kernel
theorem dX9_draw_116 : decode cX9_draw 116 = .ok (.iload 7, 2) := by decide +kernel
theorem dX9_draw_118 : decode cX9_draw 118 = .ok (.iconst 5, 1) := by decide +kernel
theorem dX9_draw_119 : decode cX9_draw 119 = .ok (.iload 9, 2) := by decide +kernel
theorem dX9_draw_121 : decode cX9_draw 121 = .ok (.i2l, 1) := by decide +kernel
theorem dX9_draw_122 : decode cX9_draw 122 = .ok (.ldc2_w 269, 3) := by decide +kernel
theorem dX9_draw_125 : decode cX9_draw 125 = .ok (.lmul, 1) := by decide +kernel
theorem dX9_draw_126 : decode cX9_draw 126 = .ok (.invokevirtual 271, 3) := by decide +kernel
theorem dX9_draw_129 : decode cX9_draw 129 = .ok (.goto 14, 3) := by decide +kernel
theorem dX9_draw_132 : decode cX9_draw 132 = .ok (.aload 5, 2) := by decide +kernel
theorem dX9_draw_134 : decode cX9_draw 134 = .ok (.iload 7, 2) := by decide +kernel
theorem dX9_draw_136 : decode cX9_draw 136 = .ok (.iload 10, 2) := by decide +kernel
theorem dX9_draw_138 : decode cX9_draw 138 = .ok (.iload 9, 2) := by decide +kernel
theorem dX9_draw_140 : decode cX9_draw 140 = .ok (.invokevirtual 110, 3) := by decide +kernel
theorem dX9_draw_143 : decode cX9_draw 143 = .ok (.iinc 7 1, 3) := by decide +kernel
theorem dX9_draw_146 : decode cX9_draw 146 = .ok (.goto (-99), 3) := by decide +kernel
theorem dX9_draw_149 : decode cX9_draw 149 = .ok (.aload_n 0, 1) := by decide +kernel
theorem dX9_draw_150 : decode cX9_draw 150 = .ok (.getfield 10, 3) := by decide +kernel
theorem dX9_draw_153 : decode cX9_draw 153 = .ok (.iload_n 1, 1) := by decide +kernel
theorem dX9_draw_154 : decode cX9_draw 154 = .ok (.aload 5, 2) := by decide +kernel
theorem dX9_draw_156 : decode cX9_draw 156 = .ok (.invokevirtual 54, 3) := by decide +kernel
theorem dX9_draw_159 : decode cX9_draw 159 = .ok (.iconst 1, 1) := by decide +kernel
theorem dX9_draw_160 : decode cX9_draw 160 = .ok (.ireturn, 1) := by decide +kernel
theorem dX9_keep_0 : decode cX9_keep 0 = .ok (.iload_n 1, 1) := by decide +kernel
theorem dX9_keep_1 : decode cX9_keep 1 = .ok (.iconst 0, 1) := by decide +kernel
theorem dX9_keep_2 : decode cX9_keep 2 = .ok (.iconst 1, 1) := by decide +kernel
theorem dX9_keep_3 : decode cX9_keep 3 = .ok (.invokestatic 50, 3) := by decide +kernel
theorem dX9_keep_6 : decode cX9_keep 6 = .ok (.ifCond .ne 5, 3) := by decide +kernel
theorem dX9_keep_9 : decode cX9_keep 9 = .ok (.iconst (-1), 1) := by decide +kernel
theorem dX9_keep_10 : decode cX9_keep 10 = .ok (.ireturn, 1) := by decide +kernel
theorem dX9_keep_11 : decode cX9_keep 11 = .ok (.aload_n 0, 1) := by decide +kernel
theorem dX9_keep_12 : decode cX9_keep 12 = .ok (.getfield 16, 3) := by decide +kernel
theorem dX9_keep_15 : decode cX9_keep 15 = .ok (.iload_n 1, 1) := by decide +kernel
theorem dX9_keep_16 : decode cX9_keep 16 = .ok (.aaload, 1) := by decide +kernel
theorem dX9_keep_17 : decode cX9_keep 17 = .ok (.ifnonnull 7, 3) := by decide +kernel
theorem dX9_keep_20 : decode cX9_keep 20 = .ok (.iconst 0, 1) := by decide +kernel
theorem dX9_keep_21 : decode cX9_keep 21 = .ok (.goto 4, 3) := by decide +kernel
theorem dX9_keep_24 : decode cX9_keep 24 = .ok (.iconst 1, 1) := by decide +kernel
theorem dX9_keep_25 : decode cX9_keep 25 = .ok (.istore_n 2, 1) := by decide +kernel
theorem dX9_keep_26 : decode cX9_keep 26 = .ok (.aload_n 0, 1) := by decide +kernel
theorem dX9_keep_27 : decode cX9_keep 27 = .ok (.getfield 16, 3) := by decide +kernel
theorem dX9_keep_30 : decode cX9_keep 30 = .ok (.iload_n 1, 1) := by decide +kernel
theorem dX9_keep_31 : decode cX9_keep 31 = .ok (.aload_n 0, 1) := by decide +kernel
theorem dX9_keep_32 : decode cX9_keep 32 = .ok (.getfield 10, 3) := by decide +kernel
theorem dX9_keep_35 : decode cX9_keep 35 = .ok (.invokevirtual 275, 3) := by decide +kernel
theorem dX9_keep_38 : decode cX9_keep 38 = .ok (.aastore, 1) := by decide +kernel
theorem dX9_keep_39 : decode cX9_keep 39 = .ok (.iload_n 2, 1) := by decide +kernel
theorem dX9_keep_40 : decode cX9_keep 40 = .ok (.ireturn, 1) := by decide +kernel
theorem dX9_back_0 : decode cX9_back 0 = .ok (.iload_n 1, 1) := by decide +kernel
theorem dX9_back_1 : decode cX9_back 1 = .ok (.iconst 0, 1) := by decide +kernel
theorem dX9_back_2 : decode cX9_back 2 = .ok (.iconst 1, 1) := by decide +kernel
theorem dX9_back_3 : decode cX9_back 3 = .ok (.invokestatic 50, 3) := by decide +kernel
theorem dX9_back_6 : decode cX9_back 6 = .ok (.ifCond .ne 5, 3) := by decide +kernel
theorem dX9_back_9 : decode cX9_back 9 = .ok (.iconst (-1), 1) := by decide +kernel
theorem dX9_back_10 : decode cX9_back 10 = .ok (.ireturn, 1) := by decide +kernel
theorem dX9_back_11 : decode cX9_back 11 = .ok (.aload_n 0, 1) := by decide +kernel
theorem dX9_back_12 : decode cX9_back 12 = .ok (.getfield 16, 3) := by decide +kernel
theorem dX9_back_15 : decode cX9_back 15 = .ok (.iload_n 1, 1) := by decide +kernel
theorem dX9_back_16 : decode cX9_back 16 = .ok (.aaload, 1) := by decide +kernel
theorem dX9_back_17 : decode cX9_back 17 = .ok (.astore_n 2, 1) := by decide +kernel
theorem dX9_back_18 : decode cX9_back 18 = .ok (.aload_n 2, 1) := by decide +kernel
theorem dX9_back_19 : decode cX9_back 19 = .ok (.ifnonnull 6, 3) := by decide +kernel
theorem dX9_back_22 : decode cX9_back 22 = .ok (.bipush (-2), 2) := by decide +kernel
theorem dX9_back_24 : decode cX9_back 24 = .ok (.ireturn, 1) := by decide +kernel
theorem dX9_back_25 : decode cX9_back 25 = .ok (.aload_n 0, 1) := by decide +kernel
theorem dX9_back_26 : decode cX9_back 26 = .ok (.aload_n 2, 1) := by decide +kernel
theorem dX9_back_27 : decode cX9_back 27 = .ok (.invokevirtual 275, 3) := by decide +kernel
theorem dX9_back_30 : decode cX9_back 30 = .ok (.putfield 10, 3) := by decide +kernel
theorem dX9_back_33 : decode cX9_back 33 = .ok (.aload_n 0, 1) := by decide +kernel
theorem dX9_back_34 : decode cX9_back 34 = .ok (.getfield 10, 3) := by decide +kernel
theorem dX9_back_37 : decode cX9_back 37 = .ok (.invokevirtual 278, 3) := by decide +kernel
theorem dX9_back_40 : decode cX9_back 40 = .ok (.ireturn, 1) := by decide +kernel
theorem dX9_count_0 : decode cX9_count 0 = .ok (.iload_n 1, 1) := by decide +kernel
theorem dX9_count_1 : decode cX9_count 1 = .ok (.tableswitch 81 0 5 #[39, 47, 55, 63, 71, 76], 39) := by decide +kernel
theorem dX9_count_40 : decode cX9_count 40 = .ok (.aload_n 0, 1) := by decide +kernel
theorem dX9_count_41 : decode cX9_count 41 = .ok (.getfield 10, 3) := by decide +kernel
theorem dX9_count_44 : decode cX9_count 44 = .ok (.invokevirtual 278, 3) := by decide +kernel
theorem dX9_count_47 : decode cX9_count 47 = .ok (.ireturn, 1) := by decide +kernel
theorem dX9_count_48 : decode cX9_count 48 = .ok (.aload_n 0, 1) := by decide +kernel
theorem dX9_count_49 : decode cX9_count 49 = .ok (.getfield 10, 3) := by decide +kernel
theorem dX9_count_52 : decode cX9_count 52 = .ok (.invokevirtual 281, 3) := by decide +kernel
theorem dX9_count_55 : decode cX9_count 55 = .ok (.ireturn, 1) := by decide +kernel
theorem dX9_count_56 : decode cX9_count 56 = .ok (.aload_n 0, 1) := by decide +kernel
theorem dX9_count_57 : decode cX9_count 57 = .ok (.getfield 10, 3) := by decide +kernel
theorem dX9_count_60 : decode cX9_count 60 = .ok (.invokevirtual 284, 3) := by decide +kernel
theorem dX9_count_63 : decode cX9_count 63 = .ok (.ireturn, 1) := by decide +kernel
theorem dX9_count_64 : decode cX9_count 64 = .ok (.aload_n 0, 1) := by decide +kernel
theorem dX9_count_65 : decode cX9_count 65 = .ok (.getfield 10, 3) := by decide +kernel
theorem dX9_count_68 : decode cX9_count 68 = .ok (.invokevirtual 287, 3) := by decide +kernel
theorem dX9_count_71 : decode cX9_count 71 = .ok (.ireturn, 1) := by decide +kernel
theorem dX9_count_72 : decode cX9_count 72 = .ok (.aload_n 0, 1) := by decide +kernel
theorem dX9_count_73 : decode cX9_count 73 = .ok (.invokevirtual 290, 3) := by decide +kernel
theorem dX9_count_76 : decode cX9_count 76 = .ok (.ireturn, 1) := by decide +kernel
theorem dX9_count_77 : decode cX9_count 77 = .ok (.aload_n 0, 1) := by decide +kernel
theorem dX9_count_78 : decode cX9_count 78 = .ok (.invokevirtual 293, 3) := by decide +kernel
theorem dX9_count_81 : decode cX9_count 81 = .ok (.ireturn, 1) := by decide +kernel
theorem dX9_count_82 : decode cX9_count 82 = .ok (.iconst (-1), 1) := by decide +kernel
theorem dX9_count_83 : decode cX9_count 83 = .ok (.ireturn, 1) := by decide +kernel
theorem dX9_isWithin_0 : decode cX9_isWithin 0 = .ok (.iload_n 1, 1) := by decide +kernel
theorem dX9_isWithin_1 : decode cX9_isWithin 1 = .ok (.iload_n 0, 1) := by decide +kernel
theorem dX9_isWithin_2 : decode cX9_isWithin 2 = .ok (.if_icmp .gt 12, 3) := by decide +kernel
theorem dX9_isWithin_5 : decode cX9_isWithin 5 = .ok (.iload_n 0, 1) := by decide +kernel
theorem dX9_isWithin_6 : decode cX9_isWithin 6 = .ok (.iload_n 2, 1) := by decide +kernel
theorem dX9_isWithin_7 : decode cX9_isWithin 7 = .ok (.if_icmp .gt 7, 3) := by decide +kernel
theorem dX9_isWithin_10 : decode cX9_isWithin 10 = .ok (.iconst 1, 1) := by decide +kernel
theorem dX9_isWithin_11 : decode cX9_isWithin 11 = .ok (.goto 4, 3) := by decide +kernel
theorem dX9_isWithin_14 : decode cX9_isWithin 14 = .ok (.iconst 0, 1) := by decide +kernel
theorem dX9_isWithin_15 : decode cX9_isWithin 15 = .ok (.ireturn, 1) := by decide +kernel
theorem dX9_isRecord_0 : decode cX9_isRecord 0 = .ok (.iload_n 0, 1) := by decide +kernel
theorem dX9_isRecord_1 : decode cX9_isRecord 1 = .ok (.iconst 0, 1) := by decide +kernel
theorem dX9_isRecord_2 : decode cX9_isRecord 2 = .ok (.bipush 7, 2) := by decide +kernel
theorem dX9_isRecord_4 : decode cX9_isRecord 4 = .ok (.invokestatic 50, 3) := by decide +kernel
theorem dX9_isRecord_7 : decode cX9_isRecord 7 = .ok (.ireturn, 1) := by decide +kernel
theorem dX9_isPatch_0 : decode cX9_isPatch 0 = .ok (.iload_n 0, 1) := by decide +kernel
theorem dX9_isPatch_1 : decode cX9_isPatch 1 = .ok (.iconst 0, 1) := by decide +kernel
theorem dX9_isPatch_2 : decode cX9_isPatch 2 = .ok (.iconst 3, 1) := by decide +kernel
theorem dX9_isPatch_3 : decode cX9_isPatch 3 = .ok (.invokestatic 50, 3) := by decide +kernel
theorem dX9_isPatch_6 : decode cX9_isPatch 6 = .ok (.ireturn, 1) := by decide +kernel
theorem dX9_answer_0 : decode cX9_answer 0 = .ok (.bipush (-10), 2) := by decide +kernel
theorem dX9_answer_2 : decode cX9_answer 2 = .ok (.iload_n 0, 1) := by decide +kernel
theorem dX9_answer_3 : decode cX9_answer 3 = .ok (.isub, 1) := by decide +kernel
theorem dX9_answer_4 : decode cX9_answer 4 = .ok (.ireturn, 1) := by decide +kernel
theorem dX9_cellFault_0 : decode cX9_cellFault 0 = .ok (.aload_n 0, 1) := by decide +kernel
theorem dX9_cellFault_1 : decode cX9_cellFault 1 = .ok (.getfield 10, 3) := by decide +kernel
theorem dX9_cellFault_4 : decode cX9_cellFault 4 = .ok (.getfield 69, 3) := by decide +kernel
theorem dX9_cellFault_7 : decode cX9_cellFault 7 = .ok (.iload_n 1, 1) := by decide +kernel
theorem dX9_cellFault_8 : decode cX9_cellFault 8 = .ok (.aaload, 1) := by decide +kernel
theorem dX9_cellFault_9 : decode cX9_cellFault 9 = .ok (.astore_n 3, 1) := by decide +kernel
theorem dX9_cellFault_10 : decode cX9_cellFault 10 = .ok (.aload_n 3, 1) := by decide +kernel
theorem dX9_cellFault_11 : decode cX9_cellFault 11 = .ok (.ifnonnull 12, 3) := by decide +kernel
theorem dX9_cellFault_14 : decode cX9_cellFault 14 = .ok (.aload_n 0, 1) := by decide +kernel
theorem dX9_cellFault_15 : decode cX9_cellFault 15 = .ok (.getfield 10, 3) := by decide +kernel
theorem dX9_cellFault_18 : decode cX9_cellFault 18 = .ok (.iload_n 1, 1) := by decide +kernel
theorem dX9_cellFault_19 : decode cX9_cellFault 19 = .ok (.invokevirtual 85, 3) := by decide +kernel
theorem dX9_cellFault_22 : decode cX9_cellFault 22 = .ok (.ireturn, 1) := by decide +kernel
theorem dX9_cellFault_23 : decode cX9_cellFault 23 = .ok (.iload_n 2, 1) := by decide +kernel
theorem dX9_cellFault_24 : decode cX9_cellFault 24 = .ok (.iconst 0, 1) := by decide +kernel
theorem dX9_cellFault_25 : decode cX9_cellFault 25 = .ok (.aload_n 3, 1) := by decide +kernel
theorem dX9_cellFault_26 : decode cX9_cellFault 26 = .ok (.getfield 88, 3) := by decide +kernel
theorem dX9_cellFault_29 : decode cX9_cellFault 29 = .ok (.iconst 1, 1) := by decide +kernel
theorem dX9_cellFault_30 : decode cX9_cellFault 30 = .ok (.isub, 1) := by decide +kernel
theorem dX9_cellFault_31 : decode cX9_cellFault 31 = .ok (.invokestatic 50, 3) := by decide +kernel
theorem dX9_cellFault_34 : decode cX9_cellFault 34 = .ok (.ifCond .eq 7, 3) := by decide +kernel
theorem dX9_cellFault_37 : decode cX9_cellFault 37 = .ok (.iconst 0, 1) := by decide +kernel
theorem dX9_cellFault_38 : decode cX9_cellFault 38 = .ok (.goto 4, 3) := by decide +kernel
theorem dX9_cellFault_41 : decode cX9_cellFault 41 = .ok (.iconst 3, 1) := by decide +kernel
theorem dX9_cellFault_42 : decode cX9_cellFault 42 = .ok (.ireturn, 1) := by decide +kernel
theorem dX9_readFault_0 : decode cX9_readFault 0 = .ok (.aload_n 0, 1) := by decide +kernel
theorem dX9_readFault_1 : decode cX9_readFault 1 = .ok (.getfield 77, 3) := by decide +kernel
theorem dX9_readFault_4 : decode cX9_readFault 4 = .ok (.bipush 7, 2) := by decide +kernel
theorem dX9_readFault_6 : decode cX9_readFault 6 = .ok (.if_icmp .le 5, 3) := by decide +kernel
theorem dX9_readFault_9 : decode cX9_readFault 9 = .ok (.iconst 4, 1) := by decide +kernel
theorem dX9_readFault_10 : decode cX9_readFault 10 = .ok (.ireturn, 1) := by decide +kernel
theorem dX9_readFault_11 : decode cX9_readFault 11 = .ok (.aload_n 0, 1) := by decide +kernel
theorem dX9_readFault_12 : decode cX9_readFault 12 = .ok (.getfield 77, 3) := by decide +kernel
theorem dX9_readFault_15 : decode cX9_readFault 15 = .ok (.iload_n 1, 1) := by decide +kernel
theorem dX9_readFault_16 : decode cX9_readFault 16 = .ok (.invokestatic 204, 3) := by decide +kernel
theorem dX9_readFault_19 : decode cX9_readFault 19 = .ok (.ifCond .eq 7, 3) := by decide +kernel
theorem dX9_readFault_22 : decode cX9_readFault 22 = .ok (.iconst 0, 1) := by decide +kernel
theorem dX9_readFault_23 : decode cX9_readFault 23 = .ok (.goto 4, 3) := by decide +kernel
theorem dX9_readFault_26 : decode cX9_readFault 26 = .ok (.iconst 5, 1) := by decide +kernel
theorem dX9_readFault_27 : decode cX9_readFault 27 = .ok (.ireturn, 1) := by decide +kernel
theorem dX9_writeNumber_0 : decode cX9_writeNumber 0 = .ok (.aload_n 0, 1) := by decide +kernel
theorem dX9_writeNumber_1 : decode cX9_writeNumber 1 = .ok (.iload_n 1, 1) := by decide +kernel
theorem dX9_writeNumber_2 : decode cX9_writeNumber 2 = .ok (.iload_n 2, 1) := by decide +kernel
theorem dX9_writeNumber_3 : decode cX9_writeNumber 3 = .ok (.invokevirtual 91, 3) := by decide +kernel
theorem dX9_writeNumber_6 : decode cX9_writeNumber 6 = .ok (.istore_n 3, 1) := by decide +kernel
theorem dX9_writeNumber_7 : decode cX9_writeNumber 7 = .ok (.iload_n 3, 1) := by decide +kernel
theorem dX9_writeNumber_8 : decode cX9_writeNumber 8 = .ok (.ifCond .eq 5, 3) := by decide +kernel
theorem dX9_writeNumber_11 : decode cX9_writeNumber 11 = .ok (.iload_n 3, 1) := by decide +kernel
theorem dX9_writeNumber_12 : decode cX9_writeNumber 12 = .ok (.ireturn, 1) := by decide +kernel
theorem dX9_writeNumber_13 : decode cX9_writeNumber 13 = .ok (.aload_n 0, 1) := by decide +kernel
theorem dX9_writeNumber_14 : decode cX9_writeNumber 14 = .ok (.getfield 10, 3) := by decide +kernel
theorem dX9_writeNumber_17 : decode cX9_writeNumber 17 = .ok (.getfield 69, 3) := by decide +kernel
theorem dX9_writeNumber_20 : decode cX9_writeNumber 20 = .ok (.iload_n 1, 1) := by decide +kernel
theorem dX9_writeNumber_21 : decode cX9_writeNumber 21 = .ok (.aaload, 1) := by decide +kernel
theorem dX9_writeNumber_22 : decode cX9_writeNumber 22 = .ok (.getfield 77, 3) := by decide +kernel
theorem dX9_writeNumber_25 : decode cX9_writeNumber 25 = .ok (.bipush 7, 2) := by decide +kernel
theorem dX9_writeNumber_27 : decode cX9_writeNumber 27 = .ok (.if_icmp .le 7, 3) := by decide +kernel
theorem dX9_writeNumber_30 : decode cX9_writeNumber 30 = .ok (.iconst 4, 1) := by decide +kernel
theorem dX9_writeNumber_31 : decode cX9_writeNumber 31 = .ok (.goto 14, 3) := by decide +kernel
theorem dX9_writeNumber_34 : decode cX9_writeNumber 34 = .ok (.aload_n 0, 1) := by decide +kernel
theorem dX9_writeNumber_35 : decode cX9_writeNumber 35 = .ok (.iload_n 1, 1) := by decide +kernel
theorem dX9_writeNumber_36 : decode cX9_writeNumber 36 = .ok (.iload_n 2, 1) := by decide +kernel
theorem dX9_writeNumber_37 : decode cX9_writeNumber 37 = .ok (.aload_n 0, 1) := by decide +kernel
theorem dX9_writeNumber_38 : decode cX9_writeNumber 38 = .ok (.getfield 42, 3) := by decide +kernel
theorem dX9_writeNumber_41 : decode cX9_writeNumber 41 = .ok (.iconst 0, 1) := by decide +kernel
theorem dX9_writeNumber_42 : decode cX9_writeNumber 42 = .ok (.invokevirtual 117, 3) := by decide +kernel
theorem dX9_writeNumber_45 : decode cX9_writeNumber 45 = .ok (.ireturn, 1) := by decide +kernel
theorem dX9_writeCell_0 : decode cX9_writeCell 0 = .ok (.aload_n 0, 1) := by decide +kernel
theorem dX9_writeCell_1 : decode cX9_writeCell 1 = .ok (.iload_n 1, 1) := by decide +kernel
theorem dX9_writeCell_2 : decode cX9_writeCell 2 = .ok (.iload_n 2, 1) := by decide +kernel
theorem dX9_writeCell_3 : decode cX9_writeCell 3 = .ok (.invokevirtual 91, 3) := by decide +kernel
theorem dX9_writeCell_6 : decode cX9_writeCell 6 = .ok (.istore 5, 2) := by decide +kernel
theorem dX9_writeCell_8 : decode cX9_writeCell 8 = .ok (.iload 5, 2) := by decide +kernel
theorem dX9_writeCell_10 : decode cX9_writeCell 10 = .ok (.ifCond .eq 6, 3) := by decide +kernel
theorem dX9_writeCell_13 : decode cX9_writeCell 13 = .ok (.iload 5, 2) := by decide +kernel
theorem dX9_writeCell_15 : decode cX9_writeCell 15 = .ok (.ireturn, 1) := by decide +kernel
theorem dX9_writeCell_16 : decode cX9_writeCell 16 = .ok (.aload_n 0, 1) := by decide +kernel
theorem dX9_writeCell_17 : decode cX9_writeCell 17 = .ok (.getfield 10, 3) := by decide +kernel
theorem dX9_writeCell_20 : decode cX9_writeCell 20 = .ok (.getfield 69, 3) := by decide +kernel
theorem dX9_writeCell_23 : decode cX9_writeCell 23 = .ok (.iload_n 1, 1) := by decide +kernel
theorem dX9_writeCell_24 : decode cX9_writeCell 24 = .ok (.aaload, 1) := by decide +kernel
theorem dX9_writeCell_25 : decode cX9_writeCell 25 = .ok (.astore 6, 2) := by decide +kernel
theorem dX9_writeCell_27 : decode cX9_writeCell 27 = .ok (.aload_n 3, 1) := by decide +kernel
theorem dX9_writeCell_28 : decode cX9_writeCell 28 = .ok (.getfield 107, 3) := by decide +kernel
theorem dX9_writeCell_31 : decode cX9_writeCell 31 = .ok (.iload 4, 2) := by decide +kernel
theorem dX9_writeCell_33 : decode cX9_writeCell 33 = .ok (.iaload, 1) := by decide +kernel
theorem dX9_writeCell_34 : decode cX9_writeCell 34 = .ok (.aload 6, 2) := by decide +kernel
theorem dX9_writeCell_36 : decode cX9_writeCell 36 = .ok (.getfield 77, 3) := by decide +kernel
theorem dX9_writeCell_39 : decode cX9_writeCell 39 = .ok (.invokestatic 204, 3) := by decide +kernel
theorem dX9_writeCell_42 : decode cX9_writeCell 42 = .ok (.ifCond .ne 5, 3) := by decide +kernel
theorem dX9_writeCell_45 : decode cX9_writeCell 45 = .ok (.iconst 5, 1) := by decide +kernel
theorem dX9_writeCell_46 : decode cX9_writeCell 46 = .ok (.ireturn, 1) := by decide +kernel
theorem dX9_writeCell_47 : decode cX9_writeCell 47 = .ok (.aload 6, 2) := by decide +kernel
theorem dX9_writeCell_49 : decode cX9_writeCell 49 = .ok (.iload_n 2, 1) := by decide +kernel
theorem dX9_writeCell_50 : decode cX9_writeCell 50 = .ok (.aload_n 3, 1) := by decide +kernel
theorem dX9_writeCell_51 : decode cX9_writeCell 51 = .ok (.iload 4, 2) := by decide +kernel
theorem dX9_writeCell_53 : decode cX9_writeCell 53 = .ok (.invokevirtual 210, 3) := by decide +kernel
theorem dX9_writeCell_56 : decode cX9_writeCell 56 = .ok (.iconst 0, 1) := by decide +kernel
theorem dX9_writeCell_57 : decode cX9_writeCell 57 = .ok (.ireturn, 1) := by decide +kernel
theorem dX9_nextState_0 : decode cX9_nextState 0 = .ok (.iload_n 0, 1) := by decide +kernel
theorem dX9_nextState_1 : decode cX9_nextState 1 = .ok (.ldc_w 296, 3) := by decide +kernel
theorem dX9_nextState_4 : decode cX9_nextState 4 = .ok (.imul, 1) := by decide +kernel
theorem dX9_nextState_5 : decode cX9_nextState 5 = .ok (.sipush 12345, 3) := by decide +kernel
theorem dX9_nextState_8 : decode cX9_nextState 8 = .ok (.iadd, 1) := by decide +kernel
theorem dX9_nextState_9 : decode cX9_nextState 9 = .ok (.ireturn, 1) := by decide +kernel
theorem dX9_drawOf_0 : decode cX9_drawOf 0 = .ok (.iload_n 0, 1) := by decide +kernel
theorem dX9_drawOf_1 : decode cX9_drawOf 1 = .ok (.bipush 16, 2) := by decide +kernel
theorem dX9_drawOf_3 : decode cX9_drawOf 3 = .ok (.ishr, 1) := by decide +kernel
theorem dX9_drawOf_4 : decode cX9_drawOf 4 = .ok (.sipush 32767, 3) := by decide +kernel
theorem dX9_drawOf_7 : decode cX9_drawOf 7 = .ok (.iand, 1) := by decide +kernel
theorem dX9_drawOf_8 : decode cX9_drawOf 8 = .ok (.ireturn, 1) := by decide +kernel
theorem dX9_timesWritten_0 : decode cX9_timesWritten 0 = .ok (.iload_n 0, 1) := by decide +kernel
theorem dX9_timesWritten_1 : decode cX9_timesWritten 1 = .ok (.bipush 8, 2) := by decide +kernel
theorem dX9_timesWritten_3 : decode cX9_timesWritten 3 = .ok (.irem, 1) := by decide +kernel
theorem dX9_timesWritten_4 : decode cX9_timesWritten 4 = .ok (.ifCond .ne 5, 3) := by decide +kernel
theorem dX9_timesWritten_7 : decode cX9_timesWritten 7 = .ok (.iconst 0, 1) := by decide +kernel
theorem dX9_timesWritten_8 : decode cX9_timesWritten 8 = .ok (.ireturn, 1) := by decide +kernel
theorem dX9_timesWritten_9 : decode cX9_timesWritten 9 = .ok (.iload_n 0, 1) := by decide +kernel
theorem dX9_timesWritten_10 : decode cX9_timesWritten 10 = .ok (.bipush 8, 2) := by decide +kernel
theorem dX9_timesWritten_12 : decode cX9_timesWritten 12 = .ok (.irem, 1) := by decide +kernel
theorem dX9_timesWritten_13 : decode cX9_timesWritten 13 = .ok (.iconst 1, 1) := by decide +kernel
theorem dX9_timesWritten_14 : decode cX9_timesWritten 14 = .ok (.if_icmp .ne 7, 3) := by decide +kernel
theorem dX9_timesWritten_17 : decode cX9_timesWritten 17 = .ok (.iconst 2, 1) := by decide +kernel
theorem dX9_timesWritten_18 : decode cX9_timesWritten 18 = .ok (.goto 4, 3) := by decide +kernel
theorem dX9_timesWritten_21 : decode cX9_timesWritten 21 = .ok (.iconst 1, 1) := by decide +kernel
theorem dX9_timesWritten_22 : decode cX9_timesWritten 22 = .ok (.ireturn, 1) := by decide +kernel
theorem dX9_loggedLength_0 : decode cX9_loggedLength 0 = .ok (.iconst 0, 1) := by decide +kernel
theorem dX9_loggedLength_1 : decode cX9_loggedLength 1 = .ok (.istore_n 2, 1) := by decide +kernel
theorem dX9_loggedLength_2 : decode cX9_loggedLength 2 = .ok (.iload_n 1, 1) := by decide +kernel
theorem dX9_loggedLength_3 : decode cX9_loggedLength 3 = .ok (.istore_n 3, 1) := by decide +kernel
theorem dX9_loggedLength_4 : decode cX9_loggedLength 4 = .ok (.iconst 0, 1) := by decide +kernel
theorem dX9_loggedLength_5 : decode cX9_loggedLength 5 = .ok (.istore 4, 2) := by decide +kernel
theorem dX9_loggedLength_7 : decode cX9_loggedLength 7 = .ok (.iload 4, 2) := by decide +kernel
theorem dX9_loggedLength_9 : decode cX9_loggedLength 9 = .ok (.iload_n 0, 1) := by decide +kernel
theorem dX9_loggedLength_10 : decode cX9_loggedLength 10 = .ok (.if_icmp .ge 24, 3) := by decide +kernel
theorem dX9_loggedLength_13 : decode cX9_loggedLength 13 = .ok (.iload_n 3, 1) := by decide +kernel
theorem dX9_loggedLength_14 : decode cX9_loggedLength 14 = .ok (.invokestatic 263, 3) := by decide +kernel
theorem dX9_loggedLength_17 : decode cX9_loggedLength 17 = .ok (.istore_n 3, 1) := by decide +kernel
theorem dX9_loggedLength_18 : decode cX9_loggedLength 18 = .ok (.iload_n 2, 1) := by decide +kernel
theorem dX9_loggedLength_19 : decode cX9_loggedLength 19 = .ok (.iload_n 3, 1) := by decide +kernel
theorem dX9_loggedLength_20 : decode cX9_loggedLength 20 = .ok (.invokestatic 266, 3) := by decide +kernel
theorem dX9_loggedLength_23 : decode cX9_loggedLength 23 = .ok (.invokestatic 297, 3) := by decide +kernel
theorem dX9_loggedLength_26 : decode cX9_loggedLength 26 = .ok (.iadd, 1) := by decide +kernel
theorem dX9_loggedLength_27 : decode cX9_loggedLength 27 = .ok (.istore_n 2, 1) := by decide +kernel
theorem dX9_loggedLength_28 : decode cX9_loggedLength 28 = .ok (.iinc 4 1, 3) := by decide +kernel
theorem dX9_loggedLength_31 : decode cX9_loggedLength 31 = .ok (.goto (-24), 3) := by decide +kernel
theorem dX9_loggedLength_34 : decode cX9_loggedLength 34 = .ok (.iload_n 2, 1) := by decide +kernel
theorem dX9_loggedLength_35 : decode cX9_loggedLength 35 = .ok (.ireturn, 1) := by decide +kernel
theorem dX9_logged_0 : decode cX9_logged 0 = .ok (.iconst 0, 1) := by decide +kernel
theorem dX9_logged_1 : decode cX9_logged 1 = .ok (.istore 4, 2) := by decide +kernel
theorem dX9_logged_3 : decode cX9_logged 3 = .ok (.iload_n 3, 1) := by decide +kernel
theorem dX9_logged_4 : decode cX9_logged 4 = .ok (.istore 5, 2) := by decide +kernel
theorem dX9_logged_6 : decode cX9_logged 6 = .ok (.iconst 0, 1) := by decide +kernel
theorem dX9_logged_7 : decode cX9_logged 7 = .ok (.istore 6, 2) := by decide +kernel
theorem dX9_logged_9 : decode cX9_logged 9 = .ok (.iload 6, 2) := by decide +kernel
theorem dX9_logged_11 : decode cX9_logged 11 = .ok (.aload_n 1, 1) := by decide +kernel
theorem dX9_logged_12 : decode cX9_logged 12 = .ok (.getfield 88, 3) := by decide +kernel
theorem dX9_logged_15 : decode cX9_logged 15 = .ok (.if_icmp .ge 92, 3) := by decide +kernel
theorem dX9_logged_18 : decode cX9_logged 18 = .ok (.iload 5, 2) := by decide +kernel
theorem dX9_logged_20 : decode cX9_logged 20 = .ok (.invokestatic 263, 3) := by decide +kernel
theorem dX9_logged_23 : decode cX9_logged 23 = .ok (.istore 5, 2) := by decide +kernel
theorem dX9_logged_25 : decode cX9_logged 25 = .ok (.iload 5, 2) := by decide +kernel
theorem dX9_logged_27 : decode cX9_logged 27 = .ok (.invokestatic 266, 3) := by decide +kernel
theorem dX9_logged_30 : decode cX9_logged 30 = .ok (.istore 7, 2) := by decide +kernel
theorem dX9_logged_32 : decode cX9_logged 32 = .ok (.aload_n 0, 1) := by decide +kernel
theorem dX9_logged_33 : decode cX9_logged 33 = .ok (.getfield 42, 3) := by decide +kernel
theorem dX9_logged_36 : decode cX9_logged 36 = .ok (.iconst 0, 1) := by decide +kernel
theorem dX9_logged_37 : decode cX9_logged 37 = .ok (.aload_n 1, 1) := by decide +kernel
theorem dX9_logged_38 : decode cX9_logged 38 = .ok (.iload 6, 2) := by decide +kernel
theorem dX9_logged_40 : decode cX9_logged 40 = .ok (.invokevirtual 210, 3) := by decide +kernel
theorem dX9_logged_43 : decode cX9_logged 43 = .ok (.iload 7, 2) := by decide +kernel
theorem dX9_logged_45 : decode cX9_logged 45 = .ok (.bipush 8, 2) := by decide +kernel
theorem dX9_logged_47 : decode cX9_logged 47 = .ok (.irem, 1) := by decide +kernel
theorem dX9_logged_48 : decode cX9_logged 48 = .ok (.iconst 2, 1) := by decide +kernel
theorem dX9_logged_49 : decode cX9_logged 49 = .ok (.if_icmp .ne 11, 3) := by decide +kernel
theorem dX9_logged_52 : decode cX9_logged 52 = .ok (.aload_n 0, 1) := by decide +kernel
theorem dX9_logged_53 : decode cX9_logged 53 = .ok (.getfield 42, 3) := by decide +kernel
theorem dX9_logged_56 : decode cX9_logged 56 = .ok (.iconst 0, 1) := by decide +kernel
theorem dX9_logged_57 : decode cX9_logged 57 = .ok (.invokevirtual 300, 3) := by decide +kernel
theorem dX9_logged_60 : decode cX9_logged 60 = .ok (.iload 7, 2) := by decide +kernel
theorem dX9_logged_62 : decode cX9_logged 62 = .ok (.invokestatic 297, 3) := by decide +kernel
theorem dX9_logged_65 : decode cX9_logged 65 = .ok (.istore 8, 2) := by decide +kernel
theorem dX9_logged_67 : decode cX9_logged 67 = .ok (.iload 8, 2) := by decide +kernel
theorem dX9_logged_69 : decode cX9_logged 69 = .ok (.ifCond .le 32, 3) := by decide +kernel
theorem dX9_logged_72 : decode cX9_logged 72 = .ok (.iload 4, 2) := by decide +kernel
theorem dX9_logged_74 : decode cX9_logged 74 = .ok (.aload_n 2, 1) := by decide +kernel
theorem dX9_logged_75 : decode cX9_logged 75 = .ok (.getfield 88, 3) := by decide +kernel
theorem dX9_logged_78 : decode cX9_logged 78 = .ok (.if_icmp .ge 23, 3) := by decide +kernel
theorem dX9_logged_81 : decode cX9_logged 81 = .ok (.aload_n 2, 1) := by decide +kernel
theorem dX9_logged_82 : decode cX9_logged 82 = .ok (.iload 4, 2) := by decide +kernel
theorem dX9_logged_84 : decode cX9_logged 84 = .ok (.aload_n 0, 1) := by decide +kernel
theorem dX9_logged_85 : decode cX9_logged 85 = .ok (.getfield 42, 3) := by decide +kernel
theorem dX9_logged_88 : decode cX9_logged 88 = .ok (.iconst 0, 1) := by decide +kernel
theorem dX9_logged_89 : decode cX9_logged 89 = .ok (.invokevirtual 210, 3) := by decide +kernel
theorem dX9_logged_92 : decode cX9_logged 92 = .ok (.iinc 4 1, 3) := by decide +kernel
theorem dX9_logged_95 : decode cX9_logged 95 = .ok (.iinc 8 (-1), 3) := by decide +kernel
theorem dX9_logged_98 : decode cX9_logged 98 = .ok (.goto (-31), 3) := by decide +kernel
theorem dX9_logged_101 : decode cX9_logged 101 = .ok (.iinc 6 1, 3) := by decide +kernel
theorem dX9_logged_104 : decode cX9_logged 104 = .ok (.goto (-95), 3) := by decide +kernel
theorem dX9_logged_107 : decode cX9_logged 107 = .ok (.aload_n 2, 1) := by decide +kernel
theorem dX9_logged_108 : decode cX9_logged 108 = .ok (.areturn, 1) := by decide +kernel
theorem dX9_patchesMade_0 : decode cX9_patchesMade 0 = .ok (.iconst 0, 1) := by decide +kernel
theorem dX9_patchesMade_1 : decode cX9_patchesMade 1 = .ok (.istore_n 1, 1) := by decide +kernel
theorem dX9_patchesMade_2 : decode cX9_patchesMade 2 = .ok (.iconst 0, 1) := by decide +kernel
theorem dX9_patchesMade_3 : decode cX9_patchesMade 3 = .ok (.istore_n 2, 1) := by decide +kernel
theorem dX9_patchesMade_4 : decode cX9_patchesMade 4 = .ok (.iload_n 2, 1) := by decide +kernel
theorem dX9_patchesMade_5 : decode cX9_patchesMade 5 = .ok (.iconst 4, 1) := by decide +kernel
theorem dX9_patchesMade_6 : decode cX9_patchesMade 6 = .ok (.if_icmp .ge 21, 3) := by decide +kernel
theorem dX9_patchesMade_9 : decode cX9_patchesMade 9 = .ok (.aload_n 0, 1) := by decide +kernel
theorem dX9_patchesMade_10 : decode cX9_patchesMade 10 = .ok (.getfield 22, 3) := by decide +kernel
theorem dX9_patchesMade_13 : decode cX9_patchesMade 13 = .ok (.iload_n 2, 1) := by decide +kernel
theorem dX9_patchesMade_14 : decode cX9_patchesMade 14 = .ok (.aaload, 1) := by decide +kernel
theorem dX9_patchesMade_15 : decode cX9_patchesMade 15 = .ok (.ifnull 6, 3) := by decide +kernel
theorem dX9_patchesMade_18 : decode cX9_patchesMade 18 = .ok (.iinc 1 1, 3) := by decide +kernel
theorem dX9_patchesMade_21 : decode cX9_patchesMade 21 = .ok (.iinc 2 1, 3) := by decide +kernel
theorem dX9_patchesMade_24 : decode cX9_patchesMade 24 = .ok (.goto (-20), 3) := by decide +kernel
theorem dX9_patchesMade_27 : decode cX9_patchesMade 27 = .ok (.iload_n 1, 1) := by decide +kernel
theorem dX9_patchesMade_28 : decode cX9_patchesMade 28 = .ok (.ireturn, 1) := by decide +kernel
theorem dX9_imagesKept_0 : decode cX9_imagesKept 0 = .ok (.iconst 0, 1) := by decide +kernel
theorem dX9_imagesKept_1 : decode cX9_imagesKept 1 = .ok (.istore_n 1, 1) := by decide +kernel
theorem dX9_imagesKept_2 : decode cX9_imagesKept 2 = .ok (.iconst 0, 1) := by decide +kernel
theorem dX9_imagesKept_3 : decode cX9_imagesKept 3 = .ok (.istore_n 2, 1) := by decide +kernel
theorem dX9_imagesKept_4 : decode cX9_imagesKept 4 = .ok (.iload_n 2, 1) := by decide +kernel
theorem dX9_imagesKept_5 : decode cX9_imagesKept 5 = .ok (.iconst 2, 1) := by decide +kernel
theorem dX9_imagesKept_6 : decode cX9_imagesKept 6 = .ok (.if_icmp .ge 21, 3) := by decide +kernel
theorem dX9_imagesKept_9 : decode cX9_imagesKept 9 = .ok (.aload_n 0, 1) := by decide +kernel
theorem dX9_imagesKept_10 : decode cX9_imagesKept 10 = .ok (.getfield 16, 3) := by decide +kernel
theorem dX9_imagesKept_13 : decode cX9_imagesKept 13 = .ok (.iload_n 2, 1) := by decide +kernel
theorem dX9_imagesKept_14 : decode cX9_imagesKept 14 = .ok (.aaload, 1) := by decide +kernel
theorem dX9_imagesKept_15 : decode cX9_imagesKept 15 = .ok (.ifnull 6, 3) := by decide +kernel
theorem dX9_imagesKept_18 : decode cX9_imagesKept 18 = .ok (.iinc 1 1, 3) := by decide +kernel
theorem dX9_imagesKept_21 : decode cX9_imagesKept 21 = .ok (.iinc 2 1, 3) := by decide +kernel
theorem dX9_imagesKept_24 : decode cX9_imagesKept 24 = .ok (.goto (-20), 3) := by decide +kernel
theorem dX9_imagesKept_27 : decode cX9_imagesKept 27 = .ok (.iload_n 1, 1) := by decide +kernel
theorem dX9_imagesKept_28 : decode cX9_imagesKept 28 = .ok (.ireturn, 1) := by decide +kernel
theorem dJxe99ae_isNaN_b9ae7_0 : decode cJxe99ae_isNaN_b9ae7 0 = .ok (.dload_n 0, 1) := by decide +kernel
theorem dJxe99ae_isNaN_b9ae7_1 : decode cJxe99ae_isNaN_b9ae7 1 = .ok (.dload_n 0, 1) := by decide +kernel
theorem dJxe99ae_isNaN_b9ae7_2 : decode cJxe99ae_isNaN_b9ae7 2 = .ok (.dcmp .l, 1) := by decide +kernel
theorem dJxe99ae_isNaN_b9ae7_3 : decode cJxe99ae_isNaN_b9ae7 3 = .ok (.ifCond .eq 7, 3) := by decide +kernel
theorem dJxe99ae_isNaN_b9ae7_6 : decode cJxe99ae_isNaN_b9ae7 6 = .ok (.iconst 1, 1) := by decide +kernel
theorem dJxe99ae_isNaN_b9ae7_7 : decode cJxe99ae_isNaN_b9ae7 7 = .ok (.goto 4, 3) := by decide +kernel
theorem dJxe99ae_isNaN_b9ae7_10 : decode cJxe99ae_isNaN_b9ae7 10 = .ok (.iconst 0, 1) := by decide +kernel
theorem dJxe99ae_isNaN_b9ae7_11 : decode cJxe99ae_isNaN_b9ae7 11 = .ok (.ireturn, 1) := by decide +kernel
theorem dJxe99ae_doubleToLongBits_ccdee_0 : decode cJxe99ae_doubleToLongBits_ccdee 0 = .ok (.dload_n 0, 1) := by decide +kernel
theorem dJxe99ae_doubleToLongBits_ccdee_1 : decode cJxe99ae_doubleToLongBits_ccdee 1 = .ok (.invokestatic 122, 3) := by decide +kernel
theorem dJxe99ae_doubleToLongBits_ccdee_4 : decode cJxe99ae_doubleToLongBits_ccdee 4 = .ok (.ifCond .ne 8, 3) := by decide +kernel
theorem dJxe99ae_doubleToLongBits_ccdee_7 : decode cJxe99ae_doubleToLongBits_ccdee 7 = .ok (.dload_n 0, 1) := by decide +kernel
theorem dJxe99ae_doubleToLongBits_ccdee_8 : decode cJxe99ae_doubleToLongBits_ccdee 8 = .ok (.invokestatic 134, 3) := by decide +kernel
theorem dJxe99ae_doubleToLongBits_ccdee_11 : decode cJxe99ae_doubleToLongBits_ccdee 11 = .ok (.lreturn, 1) := by decide +kernel
theorem dJxe99ae_doubleToLongBits_ccdee_12 : decode cJxe99ae_doubleToLongBits_ccdee 12 = .ok (.ldc2_w 137, 3) := by decide +kernel
theorem dJxe99ae_doubleToLongBits_ccdee_15 : decode cJxe99ae_doubleToLongBits_ccdee 15 = .ok (.lreturn, 1) := by decide +kernel
theorem dJxf58ca_isNaN_12338_0 : decode cJxf58ca_isNaN_12338 0 = .ok (.fload_n 0, 1) := by decide +kernel
theorem dJxf58ca_isNaN_12338_1 : decode cJxf58ca_isNaN_12338 1 = .ok (.fload_n 0, 1) := by decide +kernel
theorem dJxf58ca_isNaN_12338_2 : decode cJxf58ca_isNaN_12338 2 = .ok (.fcmp .l, 1) := by decide +kernel
theorem dJxf58ca_isNaN_12338_3 : decode cJxf58ca_isNaN_12338 3 = .ok (.ifCond .eq 7, 3) := by decide +kernel
theorem dJxf58ca_isNaN_12338_6 : decode cJxf58ca_isNaN_12338 6 = .ok (.iconst 1, 1) := by decide +kernel
theorem dJxf58ca_isNaN_12338_7 : decode cJxf58ca_isNaN_12338 7 = .ok (.goto 4, 3) := by decide +kernel
theorem dJxf58ca_isNaN_12338_10 : decode cJxf58ca_isNaN_12338 10 = .ok (.iconst 0, 1) := by decide +kernel
theorem dJxf58ca_isNaN_12338_11 : decode cJxf58ca_isNaN_12338 11 = .ok (.ireturn, 1) := by decide +kernel
theorem dJxf58ca_floatToIntBits_5c35a_0 : decode cJxf58ca_floatToIntBits_5c35a 0 = .ok (.fload_n 0, 1) := by decide +kernel
theorem dJxf58ca_floatToIntBits_5c35a_1 : decode cJxf58ca_floatToIntBits_5c35a 1 = .ok (.invokestatic 59, 3) := by decide +kernel
theorem dJxf58ca_floatToIntBits_5c35a_4 : decode cJxf58ca_floatToIntBits_5c35a 4 = .ok (.ifCond .ne 8, 3) := by decide +kernel
theorem dJxf58ca_floatToIntBits_5c35a_7 : decode cJxf58ca_floatToIntBits_5c35a 7 = .ok (.fload_n 0, 1) := by decide +kernel
theorem dJxf58ca_floatToIntBits_5c35a_8 : decode cJxf58ca_floatToIntBits_5c35a 8 = .ok (.invokestatic 74, 3) := by decide +kernel
theorem dJxf58ca_floatToIntBits_5c35a_11 : decode cJxf58ca_floatToIntBits_5c35a 11 = .ok (.ireturn, 1) := by decide +kernel
theorem dJxf58ca_floatToIntBits_5c35a_12 : decode cJxf58ca_floatToIntBits_5c35a 12 = .ok (.ldc 77, 2) := by decide +kernel
theorem dJxf58ca_floatToIntBits_5c35a_14 : decode cJxf58ca_floatToIntBits_5c35a 14 = .ok (.ireturn, 1) := by decide +kernel
theorem dJ9_floorMod_f86c9_0 : decode cJ9_floorMod_f86c9 0 = .ok (.lload_n 0, 1) := by decide +kernel
theorem dJ9_floorMod_f86c9_1 : decode cJ9_floorMod_f86c9 1 = .ok (.lload_n 2, 1) := by decide +kernel
theorem dJ9_floorMod_f86c9_2 : decode cJ9_floorMod_f86c9 2 = .ok (.lrem, 1) := by decide +kernel
theorem dJ9_floorMod_f86c9_3 : decode cJ9_floorMod_f86c9 3 = .ok (.lstore 4, 2) := by decide +kernel
theorem dJ9_floorMod_f86c9_5 : decode cJ9_floorMod_f86c9 5 = .ok (.lload_n 0, 1) := by decide +kernel
theorem dJ9_floorMod_f86c9_6 : decode cJ9_floorMod_f86c9 6 = .ok (.lload_n 2, 1) := by decide +kernel
theorem dJ9_floorMod_f86c9_7 : decode cJ9_floorMod_f86c9 7 = .ok (.lxor, 1) := by decide +kernel
theorem dJ9_floorMod_f86c9_8 : decode cJ9_floorMod_f86c9 8 = .ok (.lconst 0, 1) := by decide +kernel
theorem dJ9_floorMod_f86c9_9 : decode cJ9_floorMod_f86c9 9 = .ok (.lcmp, 1) := by decide +kernel
theorem dJ9_floorMod_f86c9_10 : decode cJ9_floorMod_f86c9 10 = .ok (.ifCond .ge 15, 3) := by decide +kernel
theorem dJ9_floorMod_f86c9_13 : decode cJ9_floorMod_f86c9 13 = .ok (.lload 4, 2) := by decide +kernel
theorem dJ9_floorMod_f86c9_15 : decode cJ9_floorMod_f86c9 15 = .ok (.lconst 0, 1) := by decide +kernel
theorem dJ9_floorMod_f86c9_16 : decode cJ9_floorMod_f86c9 16 = .ok (.lcmp, 1) := by decide +kernel
theorem dJ9_floorMod_f86c9_17 : decode cJ9_floorMod_f86c9 17 = .ok (.ifCond .eq 8, 3) := by decide +kernel
theorem dJ9_floorMod_f86c9_20 : decode cJ9_floorMod_f86c9 20 = .ok (.lload 4, 2) := by decide +kernel
theorem dJ9_floorMod_f86c9_22 : decode cJ9_floorMod_f86c9 22 = .ok (.lload_n 2, 1) := by decide +kernel
theorem dJ9_floorMod_f86c9_23 : decode cJ9_floorMod_f86c9 23 = .ok (.ladd, 1) := by decide +kernel
theorem dJ9_floorMod_f86c9_24 : decode cJ9_floorMod_f86c9 24 = .ok (.lreturn, 1) := by decide +kernel
theorem dJ9_floorMod_f86c9_25 : decode cJ9_floorMod_f86c9 25 = .ok (.lload 4, 2) := by decide +kernel
theorem dJ9_floorMod_f86c9_27 : decode cJ9_floorMod_f86c9 27 = .ok (.lreturn, 1) := by decide +kernel
theorem dJ9_max_7cf53_0 : decode cJ9_max_7cf53 0 = .ok (.iload_n 0, 1) := by decide +kernel
theorem dJ9_max_7cf53_1 : decode cJ9_max_7cf53 1 = .ok (.iload_n 1, 1) := by decide +kernel
theorem dJ9_max_7cf53_2 : decode cJ9_max_7cf53 2 = .ok (.if_icmp .lt 7, 3) := by decide +kernel
theorem dJ9_max_7cf53_5 : decode cJ9_max_7cf53 5 = .ok (.iload_n 0, 1) := by decide +kernel
theorem dJ9_max_7cf53_6 : decode cJ9_max_7cf53 6 = .ok (.goto 4, 3) := by decide +kernel
theorem dJ9_max_7cf53_9 : decode cJ9_max_7cf53 9 = .ok (.iload_n 1, 1) := by decide +kernel
theorem dJ9_max_7cf53_10 : decode cJ9_max_7cf53 10 = .ok (.ireturn, 1) := by decide +kernel
theorem dJ9_min_7cf53_0 : decode cJ9_min_7cf53 0 = .ok (.iload_n 0, 1) := by decide +kernel
theorem dJ9_min_7cf53_1 : decode cJ9_min_7cf53 1 = .ok (.iload_n 1, 1) := by decide +kernel
theorem dJ9_min_7cf53_2 : decode cJ9_min_7cf53 2 = .ok (.if_icmp .gt 7, 3) := by decide +kernel
theorem dJ9_min_7cf53_5 : decode cJ9_min_7cf53 5 = .ok (.iload_n 0, 1) := by decide +kernel
theorem dJ9_min_7cf53_6 : decode cJ9_min_7cf53 6 = .ok (.goto 4, 3) := by decide +kernel
theorem dJ9_min_7cf53_9 : decode cJ9_min_7cf53 9 = .ok (.iload_n 1, 1) := by decide +kernel
theorem dJ9_min_7cf53_10 : decode cJ9_min_7cf53 10 = .ok (.ireturn, 1) := by decide +kernel
end
section
theorem dX10_init_0 : decode cX10_init 0 = .ok (.aload_n 0, 1) := by decide +kernel
theorem dX10_init_1 : decode cX10_init 1 = .ok (.invokespecial 1, 3) := by decide +kernel
theorem dX10_init_4 : decode cX10_init 4 = .ok (.aload_n 0, 1) := by decide +kernel
theorem dX10_init_5 : decode cX10_init 5 = .ok (.sipush 880, 3) := by decide +kernel
theorem dX10_init_8 : decode cX10_init 8 = .ok (.newarray .int, 2) := by decide +kernel
theorem dX10_init_10 : decode cX10_init 10 = .ok (.putfield 7, 3) := by decide +kernel
theorem dX10_init_13 : decode cX10_init 13 = .ok (.aload_n 0, 1) := by decide +kernel
theorem dX10_init_14 : decode cX10_init 14 = .ok (.sipush 880, 3) := by decide +kernel
theorem dX10_init_17 : decode cX10_init 17 = .ok (.newarray .long, 2) := by decide +kernel
theorem dX10_init_19 : decode cX10_init 19 = .ok (.putfield 13, 3) := by decide +kernel
theorem dX10_init_22 : decode cX10_init 22 = .ok (.aload_n 0, 1) := by decide +kernel
theorem dX10_init_23 : decode cX10_init 23 = .ok (.sipush 880, 3) := by decide +kernel
theorem dX10_init_26 : decode cX10_init 26 = .ok (.newarray .double, 2) := by decide +kernel
theorem dX10_init_28 : decode cX10_init 28 = .ok (.putfield 17, 3) := by decide +kernel
theorem dX10_init_31 : decode cX10_init 31 = .ok (.aload_n 0, 1) := by decide +kernel
theorem dX10_init_32 : decode cX10_init 32 = .ok (.bipush 27, 2) := by decide +kernel
theorem dX10_init_34 : decode cX10_init 34 = .ok (.newarray .int, 2) := by decide +kernel
theorem dX10_init_36 : decode cX10_init 36 = .ok (.putfield 21, 3) := by decide +kernel
theorem dX10_init_39 : decode cX10_init 39 = .ok (.aload_n 0, 1) := by decide +kernel
theorem dX10_init_40 : decode cX10_init 40 = .ok (.bipush 27, 2) := by decide +kernel
theorem dX10_init_42 : decode cX10_init 42 = .ok (.newarray .int, 2) := by decide +kernel
theorem dX10_init_44 : decode cX10_init 44 = .ok (.putfield 24, 3) := by decide +kernel
theorem dX10_init_47 : decode cX10_init 47 = .ok (.aload_n 0, 1) := by decide +kernel
theorem dX10_init_48 : decode cX10_init 48 = .ok (.bipush 8, 2) := by decide +kernel
theorem dX10_init_50 : decode cX10_init 50 = .ok (.newarray .int, 2) := by decide +kernel
theorem dX10_init_52 : decode cX10_init 52 = .ok (.putfield 27, 3) := by decide +kernel
theorem dX10_init_55 : decode cX10_init 55 = .ok (.aload_n 0, 1) := by decide +kernel
theorem dX10_init_56 : decode cX10_init 56 = .ok (.iconst 4, 1) := by decide +kernel
theorem dX10_init_57 : decode cX10_init 57 = .ok (.newarray .int, 2) := by decide +kernel
theorem dX10_init_59 : decode cX10_init 59 = .ok (.putfield 30, 3) := by decide +kernel
theorem dX10_init_62 : decode cX10_init 62 = .ok (.aload_n 0, 1) := by decide +kernel
theorem dX10_init_63 : decode cX10_init 63 = .ok (.sipush 441, 3) := by decide +kernel
theorem dX10_init_66 : decode cX10_init 66 = .ok (.newarray .int, 2) := by decide +kernel
theorem dX10_init_68 : decode cX10_init 68 = .ok (.putfield 33, 3) := by decide +kernel
theorem dX10_init_71 : decode cX10_init 71 = .ok (.aload_n 0, 1) := by decide +kernel
theorem dX10_init_72 : decode cX10_init 72 = .ok (.bipush 40, 2) := by decide +kernel
theorem dX10_init_74 : decode cX10_init 74 = .ok (.newarray .int, 2) := by decide +kernel
theorem dX10_init_76 : decode cX10_init 76 = .ok (.putfield 36, 3) := by decide +kernel
theorem dX10_init_79 : decode cX10_init 79 = .ok (.aload_n 0, 1) := by decide +kernel
theorem dX10_init_80 : decode cX10_init 80 = .ok (.bipush 40, 2) := by decide +kernel
theorem dX10_init_82 : decode cX10_init 82 = .ok (.newarray .int, 2) := by decide +kernel
theorem dX10_init_84 : decode cX10_init 84 = .ok (.putfield 39, 3) := by decide +kernel
theorem dX10_init_87 : decode cX10_init 87 = .ok (.aload_n 0, 1) := by decide +kernel
theorem dX10_init_88 : decode cX10_init 88 = .ok (.bipush 40, 2) := by decide +kernel
theorem dX10_init_90 : decode cX10_init 90 = .ok (.newarray .int, 2) := by decide +kernel
theorem dX10_init_92 : decode cX10_init 92 = .ok (.putfield 42, 3) := by decide +kernel
theorem dX10_init_95 : decode cX10_init 95 = .ok (.aload_n 0, 1) := by decide +kernel
theorem dX10_init_96 : decode cX10_init 96 = .ok (.bipush 40, 2) := by decide +kernel
theorem dX10_init_98 : decode cX10_init 98 = .ok (.newarray .int, 2) := by decide +kernel
theorem dX10_init_100 : decode cX10_init 100 = .ok (.putfield 45, 3) := by decide +kernel
theorem dX10_init_103 : decode cX10_init 103 = .ok (.aload_n 0, 1) := by decide +kernel
theorem dX10_init_104 : decode cX10_init 104 = .ok (.bipush 40, 2) := by decide +kernel
theorem dX10_init_106 : decode cX10_init 106 = .ok (.newarray .boolean, 2) := by decide +kernel
theorem dX10_init_108 : decode cX10_init 108 = .ok (.putfield 48, 3) := by decide +kernel
theorem dX10_init_111 : decode cX10_init 111 = .ok (.aload_n 0, 1) := by decide +kernel
theorem dX10_init_112 : decode cX10_init 112 = .ok (.bipush 40, 2) := by decide +kernel
theorem dX10_init_114 : decode cX10_init 114 = .ok (.newarray .boolean, 2) := by decide +kernel
theorem dX10_init_116 : decode cX10_init 116 = .ok (.putfield 52, 3) := by decide +kernel
theorem dX10_init_119 : decode cX10_init 119 = .ok (.aload_n 0, 1) := by decide +kernel
theorem dX10_init_120 : decode cX10_init 120 = .ok (.iconst 4, 1) := by decide +kernel
theorem dX10_init_121 : decode cX10_init 121 = .ok (.newarray .boolean, 2) := by decide +kernel
theorem dX10_init_123 : decode cX10_init 123 = .ok (.putfield 55, 3) := by decide +kernel
theorem dX10_init_126 : decode cX10_init 126 = .ok (.aload_n 0, 1) := by decide +kernel
theorem dX10_init_127 : decode cX10_init 127 = .ok (.iconst 4, 1) := by decide +kernel
theorem dX10_init_128 : decode cX10_init 128 = .ok (.newarray .int, 2) := by decide +kernel
theorem dX10_init_130 : decode cX10_init 130 = .ok (.putfield 58, 3) := by decide +kernel
theorem dX10_init_133 : decode cX10_init 133 = .ok (.aload_n 0, 1) := by decide +kernel
theorem dX10_init_134 : decode cX10_init 134 = .ok (.sipush 160, 3) := by decide +kernel
theorem dX10_init_137 : decode cX10_init 137 = .ok (.newarray .int, 2) := by decide +kernel
theorem dX10_init_139 : decode cX10_init 139 = .ok (.putfield 61, 3) := by decide +kernel
theorem dX10_init_142 : decode cX10_init 142 = .ok (.aload_n 0, 1) := by decide +kernel
theorem dX10_init_143 : decode cX10_init 143 = .ok (.iconst 2, 1) := by decide +kernel
theorem dX10_init_144 : decode cX10_init 144 = .ok (.newarray .boolean, 2) := by decide +kernel
theorem dX10_init_146 : decode cX10_init 146 = .ok (.putfield 64, 3) := by decide +kernel
theorem dX10_init_149 : decode cX10_init 149 = .ok (.aload_n 0, 1) := by decide +kernel
theorem dX10_init_150 : decode cX10_init 150 = .ok (.bipush 16, 2) := by decide +kernel
theorem dX10_init_152 : decode cX10_init 152 = .ok (.newarray .int, 2) := by decide +kernel
theorem dX10_init_154 : decode cX10_init 154 = .ok (.putfield 67, 3) := by decide +kernel
theorem dX10_init_157 : decode cX10_init 157 = .ok (.iconst 0, 1) := by decide +kernel
theorem dX10_init_158 : decode cX10_init 158 = .ok (.istore_n 1, 1) := by decide +kernel
theorem dX10_init_159 : decode cX10_init 159 = .ok (.iload_n 1, 1) := by decide +kernel
theorem dX10_init_160 : decode cX10_init 160 = .ok (.bipush 8, 2) := by decide +kernel
theorem dX10_init_162 : decode cX10_init 162 = .ok (.if_icmp .ge 16, 3) := by decide +kernel
theorem dX10_init_165 : decode cX10_init 165 = .ok (.aload_n 0, 1) := by decide +kernel
theorem dX10_init_166 : decode cX10_init 166 = .ok (.getfield 27, 3) := by decide +kernel
theorem dX10_init_169 : decode cX10_init 169 = .ok (.iload_n 1, 1) := by decide +kernel
theorem dX10_init_170 : decode cX10_init 170 = .ok (.iconst (-1), 1) := by decide +kernel
theorem dX10_init_171 : decode cX10_init 171 = .ok (.iastore, 1) := by decide +kernel
theorem dX10_init_172 : decode cX10_init 172 = .ok (.iinc 1 1, 3) := by decide +kernel
theorem dX10_init_175 : decode cX10_init 175 = .ok (.goto (-16), 3) := by decide +kernel
theorem dX10_init_178 : decode cX10_init 178 = .ok (.aload_n 0, 1) := by decide +kernel
theorem dX10_init_179 : decode cX10_init 179 = .ok (.getfield 30, 3) := by decide +kernel
theorem dX10_init_182 : decode cX10_init 182 = .ok (.iconst 1, 1) := by decide +kernel
theorem dX10_init_183 : decode cX10_init 183 = .ok (.iconst 3, 1) := by decide +kernel
theorem dX10_init_184 : decode cX10_init 184 = .ok (.iastore, 1) := by decide +kernel
theorem dX10_init_185 : decode cX10_init 185 = .ok (.aload_n 0, 1) := by decide +kernel
theorem dX10_init_186 : decode cX10_init 186 = .ok (.getfield 30, 3) := by decide +kernel
theorem dX10_init_189 : decode cX10_init 189 = .ok (.iconst 2, 1) := by decide +kernel
theorem dX10_init_190 : decode cX10_init 190 = .ok (.iconst 2, 1) := by decide +kernel
theorem dX10_init_191 : decode cX10_init 191 = .ok (.iastore, 1) := by decide +kernel
theorem dX10_init_192 : decode cX10_init 192 = .ok (.aload_n 0, 1) := by decide +kernel
theorem dX10_init_193 : decode cX10_init 193 = .ok (.getfield 30, 3) := by decide +kernel
theorem dX10_init_196 : decode cX10_init 196 = .ok (.iconst 3, 1) := by decide +kernel
theorem dX10_init_197 : decode cX10_init 197 = .ok (.iconst 1, 1) := by decide +kernel
theorem dX10_init_198 : decode cX10_init 198 = .ok (.iastore, 1) := by decide +kernel
theorem dX10_init_199 : decode cX10_init 199 = .ok (.return_, 1) := by decide +kernel
theorem dX10_in_0 : decode cX10_in 0 = .ok (.lload_n 0, 1) := by decide +kernel
theorem dX10_in_1 : decode cX10_in 1 = .ok (.lload_n 2, 1) := by decide +kernel
theorem dX10_in_2 : decode cX10_in 2 = .ok (.lcmp, 1) := by decide +kernel
theorem dX10_in_3 : decode cX10_in 3 = .ok (.ifCond .lt 14, 3) := by decide +kernel
theorem dX10_in_6 : decode cX10_in 6 = .ok (.lload_n 0, 1) := by decide +kernel
theorem dX10_in_7 : decode cX10_in 7 = .ok (.lload 4, 2) := by decide +kernel
theorem dX10_in_9 : decode cX10_in 9 = .ok (.lcmp, 1) := by decide +kernel
theorem dX10_in_10 : decode cX10_in 10 = .ok (.ifCond .gt 7, 3) := by decide +kernel
theorem dX10_in_13 : decode cX10_in 13 = .ok (.iconst 1, 1) := by decide +kernel
theorem dX10_in_14 : decode cX10_in 14 = .ok (.goto 4, 3) := by decide +kernel
theorem dX10_in_17 : decode cX10_in 17 = .ok (.iconst 0, 1) := by decide +kernel
theorem dX10_in_18 : decode cX10_in 18 = .ok (.ireturn, 1) := by decide +kernel
theorem dX10_flag_0 : decode cX10_flag 0 = .ok (.iload_n 0, 1) := by decide +kernel
theorem dX10_flag_1 : decode cX10_flag 1 = .ok (.ifCond .eq 7, 3) := by decide +kernel
theorem dX10_flag_4 : decode cX10_flag 4 = .ok (.iconst 1, 1) := by decide +kernel
theorem dX10_flag_5 : decode cX10_flag 5 = .ok (.goto 4, 3) := by decide +kernel
theorem dX10_flag_8 : decode cX10_flag 8 = .ok (.iconst 0, 1) := by decide +kernel
theorem dX10_flag_9 : decode cX10_flag 9 = .ok (.ireturn, 1) := by decide +kernel
theorem dX10_isNumber_0 : decode cX10_isNumber 0 = .ok (.iload_n 0, 1) := by decide +kernel
theorem dX10_isNumber_1 : decode cX10_isNumber 1 = .ok (.i2l, 1) := by decide +kernel
theorem dX10_isNumber_2 : decode cX10_isNumber 2 = .ok (.lconst 0, 1) := by decide +kernel
theorem dX10_isNumber_3 : decode cX10_isNumber 3 = .ok (.ldc2_w 70, 3) := by decide +kernel
theorem dX10_isNumber_6 : decode cX10_isNumber 6 = .ok (.invokestatic 72, 3) := by decide +kernel
theorem dX10_isNumber_9 : decode cX10_isNumber 9 = .ok (.ireturn, 1) := by decide +kernel
theorem dX10_goesInto_0 : decode cX10_goesInto 0 = .ok (.iload_n 1, 1) := by decide +kernel
theorem dX10_goesInto_1 : decode cX10_goesInto 1 = .ok (.bipush 9, 2) := by decide +kernel
theorem dX10_goesInto_3 : decode cX10_goesInto 3 = .ok (.if_icmp .ne 5, 3) := by decide +kernel
theorem dX10_goesInto_6 : decode cX10_goesInto 6 = .ok (.iconst 1, 1) := by decide +kernel
theorem dX10_goesInto_7 : decode cX10_goesInto 7 = .ok (.ireturn, 1) := by decide +kernel
theorem dX10_goesInto_8 : decode cX10_goesInto 8 = .ok (.iload_n 1, 1) := by decide +kernel
theorem dX10_goesInto_9 : decode cX10_goesInto 9 = .ok (.bipush 7, 2) := by decide +kernel
theorem dX10_goesInto_11 : decode cX10_goesInto 11 = .ok (.if_icmp .le 20, 3) := by decide +kernel
theorem dX10_goesInto_14 : decode cX10_goesInto 14 = .ok (.iload_n 0, 1) := by decide +kernel
theorem dX10_goesInto_15 : decode cX10_goesInto 15 = .ok (.bipush 9, 2) := by decide +kernel
theorem dX10_goesInto_17 : decode cX10_goesInto 17 = .ok (.if_icmp .eq 8, 3) := by decide +kernel
theorem dX10_goesInto_20 : decode cX10_goesInto 20 = .ok (.iload_n 0, 1) := by decide +kernel
theorem dX10_goesInto_21 : decode cX10_goesInto 21 = .ok (.iload_n 1, 1) := by decide +kernel
theorem dX10_goesInto_22 : decode cX10_goesInto 22 = .ok (.if_icmp .ne 7, 3) := by decide +kernel
theorem dX10_goesInto_25 : decode cX10_goesInto 25 = .ok (.iconst 1, 1) := by decide +kernel
theorem dX10_goesInto_26 : decode cX10_goesInto 26 = .ok (.goto 4, 3) := by decide +kernel
theorem dX10_goesInto_29 : decode cX10_goesInto 29 = .ok (.iconst 0, 1) := by decide +kernel
theorem dX10_goesInto_30 : decode cX10_goesInto 30 = .ok (.ireturn, 1) := by decide +kernel
theorem dX10_goesInto_31 : decode cX10_goesInto 31 = .ok (.iload_n 0, 1) := by decide +kernel
theorem dX10_goesInto_32 : decode cX10_goesInto 32 = .ok (.invokestatic 76, 3) := by decide +kernel
theorem dX10_goesInto_35 : decode cX10_goesInto 35 = .ok (.ifCond .ne 5, 3) := by decide +kernel
theorem dX10_goesInto_38 : decode cX10_goesInto 38 = .ok (.iconst 0, 1) := by decide +kernel
theorem dX10_goesInto_39 : decode cX10_goesInto 39 = .ok (.ireturn, 1) := by decide +kernel
theorem dX10_goesInto_40 : decode cX10_goesInto 40 = .ok (.iload_n 0, 1) := by decide +kernel
theorem dX10_goesInto_41 : decode cX10_goesInto 41 = .ok (.iload_n 1, 1) := by decide +kernel
theorem dX10_goesInto_42 : decode cX10_goesInto 42 = .ok (.if_icmp .eq 27, 3) := by decide +kernel
theorem dX10_goesInto_45 : decode cX10_goesInto 45 = .ok (.iload_n 0, 1) := by decide +kernel
theorem dX10_goesInto_46 : decode cX10_goesInto 46 = .ok (.ifCond .le 27, 3) := by decide +kernel
theorem dX10_goesInto_49 : decode cX10_goesInto 49 = .ok (.iload_n 1, 1) := by decide +kernel
theorem dX10_goesInto_50 : decode cX10_goesInto 50 = .ok (.iload_n 0, 1) := by decide +kernel
theorem dX10_goesInto_51 : decode cX10_goesInto 51 = .ok (.if_icmp .le 22, 3) := by decide +kernel
theorem dX10_goesInto_54 : decode cX10_goesInto 54 = .ok (.iload_n 1, 1) := by decide +kernel
theorem dX10_goesInto_55 : decode cX10_goesInto 55 = .ok (.iconst 3, 1) := by decide +kernel
theorem dX10_goesInto_56 : decode cX10_goesInto 56 = .ok (.if_icmp .lt 17, 3) := by decide +kernel
theorem dX10_goesInto_59 : decode cX10_goesInto 59 = .ok (.iload_n 0, 1) := by decide +kernel
theorem dX10_goesInto_60 : decode cX10_goesInto 60 = .ok (.iconst 2, 1) := by decide +kernel
theorem dX10_goesInto_61 : decode cX10_goesInto 61 = .ok (.if_icmp .ne 8, 3) := by decide +kernel
theorem dX10_goesInto_64 : decode cX10_goesInto 64 = .ok (.iload_n 1, 1) := by decide +kernel
theorem dX10_goesInto_65 : decode cX10_goesInto 65 = .ok (.iconst 3, 1) := by decide +kernel
theorem dX10_goesInto_66 : decode cX10_goesInto 66 = .ok (.if_icmp .eq 7, 3) := by decide +kernel
theorem dX10_goesInto_69 : decode cX10_goesInto 69 = .ok (.iconst 1, 1) := by decide +kernel
theorem dX10_goesInto_70 : decode cX10_goesInto 70 = .ok (.goto 4, 3) := by decide +kernel
theorem dX10_goesInto_73 : decode cX10_goesInto 73 = .ok (.iconst 0, 1) := by decide +kernel
theorem dX10_goesInto_74 : decode cX10_goesInto 74 = .ok (.ireturn, 1) := by decide +kernel
theorem dX10_joinOf_0 : decode cX10_joinOf 0 = .ok (.iconst 0, 1) := by decide +kernel
theorem dX10_joinOf_1 : decode cX10_joinOf 1 = .ok (.istore_n 2, 1) := by decide +kernel
theorem dX10_joinOf_2 : decode cX10_joinOf 2 = .ok (.iload_n 2, 1) := by decide +kernel
theorem dX10_joinOf_3 : decode cX10_joinOf 3 = .ok (.bipush 7, 2) := by decide +kernel
theorem dX10_joinOf_5 : decode cX10_joinOf 5 = .ok (.if_icmp .gt 41, 3) := by decide +kernel
theorem dX10_joinOf_8 : decode cX10_joinOf 8 = .ok (.iload_n 0, 1) := by decide +kernel
theorem dX10_joinOf_9 : decode cX10_joinOf 9 = .ok (.invokestatic 76, 3) := by decide +kernel
theorem dX10_joinOf_12 : decode cX10_joinOf 12 = .ok (.ifCond .eq 34, 3) := by decide +kernel
theorem dX10_joinOf_15 : decode cX10_joinOf 15 = .ok (.iload_n 1, 1) := by decide +kernel
theorem dX10_joinOf_16 : decode cX10_joinOf 16 = .ok (.invokestatic 76, 3) := by decide +kernel
theorem dX10_joinOf_19 : decode cX10_joinOf 19 = .ok (.ifCond .eq 27, 3) := by decide +kernel
theorem dX10_joinOf_22 : decode cX10_joinOf 22 = .ok (.iload_n 0, 1) := by decide +kernel
theorem dX10_joinOf_23 : decode cX10_joinOf 23 = .ok (.iload_n 2, 1) := by decide +kernel
theorem dX10_joinOf_24 : decode cX10_joinOf 24 = .ok (.invokestatic 80, 3) := by decide +kernel
theorem dX10_joinOf_27 : decode cX10_joinOf 27 = .ok (.ifCond .eq 13, 3) := by decide +kernel
theorem dX10_joinOf_30 : decode cX10_joinOf 30 = .ok (.iload_n 1, 1) := by decide +kernel
theorem dX10_joinOf_31 : decode cX10_joinOf 31 = .ok (.iload_n 2, 1) := by decide +kernel
theorem dX10_joinOf_32 : decode cX10_joinOf 32 = .ok (.invokestatic 80, 3) := by decide +kernel
theorem dX10_joinOf_35 : decode cX10_joinOf 35 = .ok (.ifCond .eq 5, 3) := by decide +kernel
theorem dX10_joinOf_38 : decode cX10_joinOf 38 = .ok (.iload_n 2, 1) := by decide +kernel
theorem dX10_joinOf_39 : decode cX10_joinOf 39 = .ok (.ireturn, 1) := by decide +kernel
theorem dX10_joinOf_40 : decode cX10_joinOf 40 = .ok (.iinc 2 1, 3) := by decide +kernel
theorem dX10_joinOf_43 : decode cX10_joinOf 43 = .ok (.goto (-41), 3) := by decide +kernel
theorem dX10_joinOf_46 : decode cX10_joinOf 46 = .ok (.bipush (-4), 2) := by decide +kernel
theorem dX10_joinOf_48 : decode cX10_joinOf 48 = .ok (.ireturn, 1) := by decide +kernel
theorem dX10_lays_0 : decode cX10_lays 0 = .ok (.aload_n 0, 1) := by decide +kernel
theorem dX10_lays_1 : decode cX10_lays 1 = .ok (.getfield 7, 3) := by decide +kernel
theorem dX10_lays_4 : decode cX10_lays 4 = .ok (.iload_n 1, 1) := by decide +kernel
theorem dX10_lays_5 : decode cX10_lays 5 = .ok (.iload_n 2, 1) := by decide +kernel
theorem dX10_lays_6 : decode cX10_lays 6 = .ok (.iastore, 1) := by decide +kernel
theorem dX10_lays_7 : decode cX10_lays 7 = .ok (.aload_n 0, 1) := by decide +kernel
theorem dX10_lays_8 : decode cX10_lays 8 = .ok (.getfield 13, 3) := by decide +kernel
theorem dX10_lays_11 : decode cX10_lays 11 = .ok (.iload_n 1, 1) := by decide +kernel
theorem dX10_lays_12 : decode cX10_lays 12 = .ok (.lload_n 3, 1) := by decide +kernel
theorem dX10_lays_13 : decode cX10_lays 13 = .ok (.lastore, 1) := by decide +kernel
theorem dX10_lays_14 : decode cX10_lays 14 = .ok (.aload_n 0, 1) := by decide +kernel
theorem dX10_lays_15 : decode cX10_lays 15 = .ok (.getfield 17, 3) := by decide +kernel
theorem dX10_lays_18 : decode cX10_lays 18 = .ok (.iload_n 1, 1) := by decide +kernel
theorem dX10_lays_19 : decode cX10_lays 19 = .ok (.dload 5, 2) := by decide +kernel
theorem dX10_lays_21 : decode cX10_lays 21 = .ok (.dastore, 1) := by decide +kernel
theorem dX10_lays_22 : decode cX10_lays 22 = .ok (.return_, 1) := by decide +kernel
theorem dX10_fractionOf_0 : decode cX10_fractionOf 0 = .ok (.aload_n 0, 1) := by decide +kernel
theorem dX10_fractionOf_1 : decode cX10_fractionOf 1 = .ok (.getfield 7, 3) := by decide +kernel
theorem dX10_fractionOf_4 : decode cX10_fractionOf 4 = .ok (.iload_n 1, 1) := by decide +kernel
theorem dX10_fractionOf_5 : decode cX10_fractionOf 5 = .ok (.iaload, 1) := by decide +kernel
theorem dX10_fractionOf_6 : decode cX10_fractionOf 6 = .ok (.bipush 6, 2) := by decide +kernel
theorem dX10_fractionOf_8 : decode cX10_fractionOf 8 = .ok (.if_icmp .lt 10, 3) := by decide +kernel
theorem dX10_fractionOf_11 : decode cX10_fractionOf 11 = .ok (.aload_n 0, 1) := by decide +kernel
theorem dX10_fractionOf_12 : decode cX10_fractionOf 12 = .ok (.getfield 17, 3) := by decide +kernel
theorem dX10_fractionOf_15 : decode cX10_fractionOf 15 = .ok (.iload_n 1, 1) := by decide +kernel
theorem dX10_fractionOf_16 : decode cX10_fractionOf 16 = .ok (.daload, 1) := by decide +kernel
theorem dX10_fractionOf_17 : decode cX10_fractionOf 17 = .ok (.dreturn, 1) := by decide +kernel
theorem dX10_fractionOf_18 : decode cX10_fractionOf 18 = .ok (.iload_n 2, 1) := by decide +kernel
theorem dX10_fractionOf_19 : decode cX10_fractionOf 19 = .ok (.bipush 6, 2) := by decide +kernel
theorem dX10_fractionOf_21 : decode cX10_fractionOf 21 = .ok (.if_icmp .ne 14, 3) := by decide +kernel
theorem dX10_fractionOf_24 : decode cX10_fractionOf 24 = .ok (.aload_n 0, 1) := by decide +kernel
theorem dX10_fractionOf_25 : decode cX10_fractionOf 25 = .ok (.getfield 13, 3) := by decide +kernel
theorem dX10_fractionOf_28 : decode cX10_fractionOf 28 = .ok (.iload_n 1, 1) := by decide +kernel
theorem dX10_fractionOf_29 : decode cX10_fractionOf 29 = .ok (.laload, 1) := by decide +kernel
theorem dX10_fractionOf_30 : decode cX10_fractionOf 30 = .ok (.l2f, 1) := by decide +kernel
theorem dX10_fractionOf_31 : decode cX10_fractionOf 31 = .ok (.f2d, 1) := by decide +kernel
theorem dX10_fractionOf_32 : decode cX10_fractionOf 32 = .ok (.goto 10, 3) := by decide +kernel
theorem dX10_fractionOf_35 : decode cX10_fractionOf 35 = .ok (.aload_n 0, 1) := by decide +kernel
theorem dX10_fractionOf_36 : decode cX10_fractionOf 36 = .ok (.getfield 13, 3) := by decide +kernel
theorem dX10_fractionOf_39 : decode cX10_fractionOf 39 = .ok (.iload_n 1, 1) := by decide +kernel
theorem dX10_fractionOf_40 : decode cX10_fractionOf 40 = .ok (.laload, 1) := by decide +kernel
theorem dX10_fractionOf_41 : decode cX10_fractionOf 41 = .ok (.l2d, 1) := by decide +kernel
theorem dX10_fractionOf_42 : decode cX10_fractionOf 42 = .ok (.dreturn, 1) := by decide +kernel
theorem dX10_widens_0 : decode cX10_widens 0 = .ok (.iload_n 2, 1) := by decide +kernel
theorem dX10_widens_1 : decode cX10_widens 1 = .ok (.bipush 7, 2) := by decide +kernel
theorem dX10_widens_3 : decode cX10_widens 3 = .ok (.if_icmp .le 29, 3) := by decide +kernel
theorem dX10_widens_6 : decode cX10_widens 6 = .ok (.aload_n 0, 1) := by decide +kernel
theorem dX10_widens_7 : decode cX10_widens 7 = .ok (.iload_n 3, 1) := by decide +kernel
theorem dX10_widens_8 : decode cX10_widens 8 = .ok (.aload_n 0, 1) := by decide +kernel
theorem dX10_widens_9 : decode cX10_widens 9 = .ok (.getfield 7, 3) := by decide +kernel
theorem dX10_widens_12 : decode cX10_widens 12 = .ok (.iload_n 1, 1) := by decide +kernel
theorem dX10_widens_13 : decode cX10_widens 13 = .ok (.iaload, 1) := by decide +kernel
theorem dX10_widens_14 : decode cX10_widens 14 = .ok (.aload_n 0, 1) := by decide +kernel
theorem dX10_widens_15 : decode cX10_widens 15 = .ok (.getfield 13, 3) := by decide +kernel
theorem dX10_widens_18 : decode cX10_widens 18 = .ok (.iload_n 1, 1) := by decide +kernel
theorem dX10_widens_19 : decode cX10_widens 19 = .ok (.laload, 1) := by decide +kernel
theorem dX10_widens_20 : decode cX10_widens 20 = .ok (.aload_n 0, 1) := by decide +kernel
theorem dX10_widens_21 : decode cX10_widens 21 = .ok (.getfield 17, 3) := by decide +kernel
theorem dX10_widens_24 : decode cX10_widens 24 = .ok (.iload_n 1, 1) := by decide +kernel
theorem dX10_widens_25 : decode cX10_widens 25 = .ok (.daload, 1) := by decide +kernel
theorem dX10_widens_26 : decode cX10_widens 26 = .ok (.invokevirtual 84, 3) := by decide +kernel
theorem dX10_widens_29 : decode cX10_widens 29 = .ok (.goto 38, 3) := by decide +kernel
theorem dX10_widens_32 : decode cX10_widens 32 = .ok (.iload_n 2, 1) := by decide +kernel
theorem dX10_widens_33 : decode cX10_widens 33 = .ok (.bipush 6, 2) := by decide +kernel
theorem dX10_widens_35 : decode cX10_widens 35 = .ok (.if_icmp .lt 19, 3) := by decide +kernel
theorem dX10_widens_38 : decode cX10_widens 38 = .ok (.aload_n 0, 1) := by decide +kernel
theorem dX10_widens_39 : decode cX10_widens 39 = .ok (.iload_n 3, 1) := by decide +kernel
theorem dX10_widens_40 : decode cX10_widens 40 = .ok (.iload_n 2, 1) := by decide +kernel
theorem dX10_widens_41 : decode cX10_widens 41 = .ok (.lconst 0, 1) := by decide +kernel
theorem dX10_widens_42 : decode cX10_widens 42 = .ok (.aload_n 0, 1) := by decide +kernel
theorem dX10_widens_43 : decode cX10_widens 43 = .ok (.iload_n 1, 1) := by decide +kernel
theorem dX10_widens_44 : decode cX10_widens 44 = .ok (.iload_n 2, 1) := by decide +kernel
theorem dX10_widens_45 : decode cX10_widens 45 = .ok (.invokevirtual 88, 3) := by decide +kernel
theorem dX10_widens_48 : decode cX10_widens 48 = .ok (.invokevirtual 84, 3) := by decide +kernel
theorem dX10_widens_51 : decode cX10_widens 51 = .ok (.goto 16, 3) := by decide +kernel
theorem dX10_widens_54 : decode cX10_widens 54 = .ok (.aload_n 0, 1) := by decide +kernel
theorem dX10_widens_55 : decode cX10_widens 55 = .ok (.iload_n 3, 1) := by decide +kernel
theorem dX10_widens_56 : decode cX10_widens 56 = .ok (.iload_n 2, 1) := by decide +kernel
theorem dX10_widens_57 : decode cX10_widens 57 = .ok (.aload_n 0, 1) := by decide +kernel
theorem dX10_widens_58 : decode cX10_widens 58 = .ok (.getfield 13, 3) := by decide +kernel
theorem dX10_widens_61 : decode cX10_widens 61 = .ok (.iload_n 1, 1) := by decide +kernel
theorem dX10_widens_62 : decode cX10_widens 62 = .ok (.laload, 1) := by decide +kernel
theorem dX10_widens_63 : decode cX10_widens 63 = .ok (.dconst 0, 1) := by decide +kernel
theorem dX10_widens_64 : decode cX10_widens 64 = .ok (.invokevirtual 84, 3) := by decide +kernel
theorem dX10_widens_67 : decode cX10_widens 67 = .ok (.return_, 1) := by decide +kernel
theorem dX10_bitsOf_0 : decode cX10_bitsOf 0 = .ok (.iload_n 0, 1) := by decide +kernel
theorem dX10_bitsOf_1 : decode cX10_bitsOf 1 = .ok (.bipush 6, 2) := by decide +kernel
theorem dX10_bitsOf_3 : decode cX10_bitsOf 3 = .ok (.if_icmp .ne 12, 3) := by decide +kernel
theorem dX10_bitsOf_6 : decode cX10_bitsOf 6 = .ok (.dload_n 1, 1) := by decide +kernel
theorem dX10_bitsOf_7 : decode cX10_bitsOf 7 = .ok (.d2f, 1) := by decide +kernel
theorem dX10_bitsOf_8 : decode cX10_bitsOf 8 = .ok (.invokestatic 92, 3) := by decide +kernel
theorem dX10_bitsOf_11 : decode cX10_bitsOf 11 = .ok (.i2l, 1) := by decide +kernel
theorem dX10_bitsOf_12 : decode cX10_bitsOf 12 = .ok (.goto 7, 3) := by decide +kernel
theorem dX10_bitsOf_15 : decode cX10_bitsOf 15 = .ok (.dload_n 1, 1) := by decide +kernel
theorem dX10_bitsOf_16 : decode cX10_bitsOf 16 = .ok (.invokestatic 98, 3) := by decide +kernel
theorem dX10_bitsOf_19 : decode cX10_bitsOf 19 = .ok (.lreturn, 1) := by decide +kernel
theorem dX10_amountOf_0 : decode cX10_amountOf 0 = .ok (.aload_n 0, 1) := by decide +kernel
theorem dX10_amountOf_1 : decode cX10_amountOf 1 = .ok (.getfield 7, 3) := by decide +kernel
theorem dX10_amountOf_4 : decode cX10_amountOf 4 = .ok (.iload_n 1, 1) := by decide +kernel
theorem dX10_amountOf_5 : decode cX10_amountOf 5 = .ok (.iaload, 1) := by decide +kernel
theorem dX10_amountOf_6 : decode cX10_amountOf 6 = .ok (.bipush 9, 2) := by decide +kernel
theorem dX10_amountOf_8 : decode cX10_amountOf 8 = .ok (.if_icmp .ne 5, 3) := by decide +kernel
theorem dX10_amountOf_11 : decode cX10_amountOf 11 = .ok (.lconst 0, 1) := by decide +kernel
theorem dX10_amountOf_12 : decode cX10_amountOf 12 = .ok (.lreturn, 1) := by decide +kernel
theorem dX10_amountOf_13 : decode cX10_amountOf 13 = .ok (.iload_n 2, 1) := by decide +kernel
theorem dX10_amountOf_14 : decode cX10_amountOf 14 = .ok (.bipush 6, 2) := by decide +kernel
theorem dX10_amountOf_16 : decode cX10_amountOf 16 = .ok (.if_icmp .eq 9, 3) := by decide +kernel
theorem dX10_amountOf_19 : decode cX10_amountOf 19 = .ok (.iload_n 2, 1) := by decide +kernel
theorem dX10_amountOf_20 : decode cX10_amountOf 20 = .ok (.bipush 7, 2) := by decide +kernel
theorem dX10_amountOf_22 : decode cX10_amountOf 22 = .ok (.if_icmp .ne 16, 3) := by decide +kernel
theorem dX10_amountOf_25 : decode cX10_amountOf 25 = .ok (.iload_n 2, 1) := by decide +kernel
theorem dX10_amountOf_26 : decode cX10_amountOf 26 = .ok (.aload_n 0, 1) := by decide +kernel
theorem dX10_amountOf_27 : decode cX10_amountOf 27 = .ok (.iload_n 1, 1) := by decide +kernel
theorem dX10_amountOf_28 : decode cX10_amountOf 28 = .ok (.iload_n 2, 1) := by decide +kernel
theorem dX10_amountOf_29 : decode cX10_amountOf 29 = .ok (.invokevirtual 88, 3) := by decide +kernel
theorem dX10_amountOf_32 : decode cX10_amountOf 32 = .ok (.invokestatic 104, 3) := by decide +kernel
theorem dX10_amountOf_35 : decode cX10_amountOf 35 = .ok (.goto 9, 3) := by decide +kernel
theorem dX10_amountOf_38 : decode cX10_amountOf 38 = .ok (.aload_n 0, 1) := by decide +kernel
theorem dX10_amountOf_39 : decode cX10_amountOf 39 = .ok (.getfield 13, 3) := by decide +kernel
theorem dX10_amountOf_42 : decode cX10_amountOf 42 = .ok (.iload_n 1, 1) := by decide +kernel
theorem dX10_amountOf_43 : decode cX10_amountOf 43 = .ok (.laload, 1) := by decide +kernel
theorem dX10_amountOf_44 : decode cX10_amountOf 44 = .ok (.lreturn, 1) := by decide +kernel
theorem dX10_areAlike_0 : decode cX10_areAlike 0 = .ok (.aload_n 0, 1) := by decide +kernel
theorem dX10_areAlike_1 : decode cX10_areAlike 1 = .ok (.getfield 7, 3) := by decide +kernel
theorem dX10_areAlike_4 : decode cX10_areAlike 4 = .ok (.iload_n 1, 1) := by decide +kernel
theorem dX10_areAlike_5 : decode cX10_areAlike 5 = .ok (.iaload, 1) := by decide +kernel
theorem dX10_areAlike_6 : decode cX10_areAlike 6 = .ok (.aload_n 0, 1) := by decide +kernel
theorem dX10_areAlike_7 : decode cX10_areAlike 7 = .ok (.getfield 7, 3) := by decide +kernel
theorem dX10_areAlike_10 : decode cX10_areAlike 10 = .ok (.iload_n 2, 1) := by decide +kernel
theorem dX10_areAlike_11 : decode cX10_areAlike 11 = .ok (.iaload, 1) := by decide +kernel
theorem dX10_areAlike_12 : decode cX10_areAlike 12 = .ok (.invokestatic 108, 3) := by decide +kernel
theorem dX10_areAlike_15 : decode cX10_areAlike 15 = .ok (.istore_n 3, 1) := by decide +kernel
theorem dX10_areAlike_16 : decode cX10_areAlike 16 = .ok (.iload_n 3, 1) := by decide +kernel
theorem dX10_areAlike_17 : decode cX10_areAlike 17 = .ok (.bipush (-4), 2) := by decide +kernel
theorem dX10_areAlike_19 : decode cX10_areAlike 19 = .ok (.if_icmp .ne 63, 3) := by decide +kernel
theorem dX10_areAlike_22 : decode cX10_areAlike 22 = .ok (.aload_n 0, 1) := by decide +kernel
theorem dX10_areAlike_23 : decode cX10_areAlike 23 = .ok (.getfield 7, 3) := by decide +kernel
theorem dX10_areAlike_26 : decode cX10_areAlike 26 = .ok (.iload_n 1, 1) := by decide +kernel
theorem dX10_areAlike_27 : decode cX10_areAlike 27 = .ok (.iaload, 1) := by decide +kernel
theorem dX10_areAlike_28 : decode cX10_areAlike 28 = .ok (.invokestatic 76, 3) := by decide +kernel
theorem dX10_areAlike_31 : decode cX10_areAlike 31 = .ok (.ifCond .ne 49, 3) := by decide +kernel
theorem dX10_areAlike_34 : decode cX10_areAlike 34 = .ok (.aload_n 0, 1) := by decide +kernel
theorem dX10_areAlike_35 : decode cX10_areAlike 35 = .ok (.getfield 7, 3) := by decide +kernel
theorem dX10_areAlike_38 : decode cX10_areAlike 38 = .ok (.iload_n 1, 1) := by decide +kernel
theorem dX10_areAlike_39 : decode cX10_areAlike 39 = .ok (.iaload, 1) := by decide +kernel
theorem dX10_areAlike_40 : decode cX10_areAlike 40 = .ok (.aload_n 0, 1) := by decide +kernel
theorem dX10_areAlike_41 : decode cX10_areAlike 41 = .ok (.getfield 7, 3) := by decide +kernel
theorem dX10_areAlike_44 : decode cX10_areAlike 44 = .ok (.iload_n 2, 1) := by decide +kernel
theorem dX10_areAlike_45 : decode cX10_areAlike 45 = .ok (.iaload, 1) := by decide +kernel
theorem dX10_areAlike_46 : decode cX10_areAlike 46 = .ok (.if_icmp .ne 34, 3) := by decide +kernel
theorem dX10_areAlike_49 : decode cX10_areAlike 49 = .ok (.aload_n 0, 1) := by decide +kernel
theorem dX10_areAlike_50 : decode cX10_areAlike 50 = .ok (.getfield 7, 3) := by decide +kernel
theorem dX10_areAlike_53 : decode cX10_areAlike 53 = .ok (.iload_n 1, 1) := by decide +kernel
theorem dX10_areAlike_54 : decode cX10_areAlike 54 = .ok (.iaload, 1) := by decide +kernel
theorem dX10_areAlike_55 : decode cX10_areAlike 55 = .ok (.bipush 9, 2) := by decide +kernel
theorem dX10_areAlike_57 : decode cX10_areAlike 57 = .ok (.if_icmp .eq 19, 3) := by decide +kernel
theorem dX10_areAlike_60 : decode cX10_areAlike 60 = .ok (.aload_n 0, 1) := by decide +kernel
theorem dX10_areAlike_61 : decode cX10_areAlike 61 = .ok (.getfield 13, 3) := by decide +kernel
theorem dX10_areAlike_64 : decode cX10_areAlike 64 = .ok (.iload_n 1, 1) := by decide +kernel
theorem dX10_areAlike_65 : decode cX10_areAlike 65 = .ok (.laload, 1) := by decide +kernel
theorem dX10_areAlike_66 : decode cX10_areAlike 66 = .ok (.aload_n 0, 1) := by decide +kernel
theorem dX10_areAlike_67 : decode cX10_areAlike 67 = .ok (.getfield 13, 3) := by decide +kernel
theorem dX10_areAlike_70 : decode cX10_areAlike 70 = .ok (.iload_n 2, 1) := by decide +kernel
theorem dX10_areAlike_71 : decode cX10_areAlike 71 = .ok (.laload, 1) := by decide +kernel
theorem dX10_areAlike_72 : decode cX10_areAlike 72 = .ok (.lcmp, 1) := by decide +kernel
theorem dX10_areAlike_73 : decode cX10_areAlike 73 = .ok (.ifCond .ne 7, 3) := by decide +kernel
theorem dX10_areAlike_76 : decode cX10_areAlike 76 = .ok (.iconst 1, 1) := by decide +kernel
theorem dX10_areAlike_77 : decode cX10_areAlike 77 = .ok (.goto 4, 3) := by decide +kernel
theorem dX10_areAlike_80 : decode cX10_areAlike 80 = .ok (.iconst 0, 1) := by decide +kernel
theorem dX10_areAlike_81 : decode cX10_areAlike 81 = .ok (.ireturn, 1) := by decide +kernel
theorem dX10_areAlike_82 : decode cX10_areAlike 82 = .ok (.iload_n 3, 1) := by decide +kernel
theorem dX10_areAlike_83 : decode cX10_areAlike 83 = .ok (.bipush 6, 2) := by decide +kernel
theorem dX10_areAlike_85 : decode cX10_areAlike 85 = .ok (.if_icmp .lt 27, 3) := by decide +kernel
theorem dX10_areAlike_88 : decode cX10_areAlike 88 = .ok (.aload_n 0, 1) := by decide +kernel
theorem dX10_areAlike_89 : decode cX10_areAlike 89 = .ok (.iload_n 1, 1) := by decide +kernel
theorem dX10_areAlike_90 : decode cX10_areAlike 90 = .ok (.iload_n 3, 1) := by decide +kernel
theorem dX10_areAlike_91 : decode cX10_areAlike 91 = .ok (.invokevirtual 88, 3) := by decide +kernel
theorem dX10_areAlike_94 : decode cX10_areAlike 94 = .ok (.aload_n 0, 1) := by decide +kernel
theorem dX10_areAlike_95 : decode cX10_areAlike 95 = .ok (.iload_n 2, 1) := by decide +kernel
theorem dX10_areAlike_96 : decode cX10_areAlike 96 = .ok (.iload_n 3, 1) := by decide +kernel
theorem dX10_areAlike_97 : decode cX10_areAlike 97 = .ok (.invokevirtual 88, 3) := by decide +kernel
theorem dX10_areAlike_100 : decode cX10_areAlike 100 = .ok (.dcmp .l, 1) := by decide +kernel
theorem dX10_areAlike_101 : decode cX10_areAlike 101 = .ok (.ifCond .ne 7, 3) := by decide +kernel
theorem dX10_areAlike_104 : decode cX10_areAlike 104 = .ok (.iconst 1, 1) := by decide +kernel
theorem dX10_areAlike_105 : decode cX10_areAlike 105 = .ok (.goto 28, 3) := by decide +kernel
theorem dX10_areAlike_108 : decode cX10_areAlike 108 = .ok (.iconst 0, 1) := by decide +kernel
theorem dX10_areAlike_109 : decode cX10_areAlike 109 = .ok (.goto 24, 3) := by decide +kernel
theorem dX10_areAlike_112 : decode cX10_areAlike 112 = .ok (.aload_n 0, 1) := by decide +kernel
theorem dX10_areAlike_113 : decode cX10_areAlike 113 = .ok (.getfield 13, 3) := by decide +kernel
theorem dX10_areAlike_116 : decode cX10_areAlike 116 = .ok (.iload_n 1, 1) := by decide +kernel
theorem dX10_areAlike_117 : decode cX10_areAlike 117 = .ok (.laload, 1) := by decide +kernel
theorem dX10_areAlike_118 : decode cX10_areAlike 118 = .ok (.aload_n 0, 1) := by decide +kernel
theorem dX10_areAlike_119 : decode cX10_areAlike 119 = .ok (.getfield 13, 3) := by decide +kernel
theorem dX10_areAlike_122 : decode cX10_areAlike 122 = .ok (.iload_n 2, 1) := by decide +kernel
theorem dX10_areAlike_123 : decode cX10_areAlike 123 = .ok (.laload, 1) := by decide +kernel
theorem dX10_areAlike_124 : decode cX10_areAlike 124 = .ok (.lcmp, 1) := by decide +kernel
theorem dX10_areAlike_125 : decode cX10_areAlike 125 = .ok (.ifCond .ne 7, 3) := by decide +kernel
theorem dX10_areAlike_128 : decode cX10_areAlike 128 = .ok (.iconst 1, 1) := by decide +kernel
theorem dX10_areAlike_129 : decode cX10_areAlike 129 = .ok (.goto 4, 3) := by decide +kernel
theorem dX10_areAlike_132 : decode cX10_areAlike 132 = .ok (.iconst 0, 1) := by decide +kernel
theorem dX10_areAlike_133 : decode cX10_areAlike 133 = .ok (.ireturn, 1) := by decide +kernel
theorem dX10_areNear_0 : decode cX10_areNear 0 = .ok (.aload_n 0, 1) := by decide +kernel
theorem dX10_areNear_1 : decode cX10_areNear 1 = .ok (.getfield 7, 3) := by decide +kernel
theorem dX10_areNear_4 : decode cX10_areNear 4 = .ok (.iload_n 1, 1) := by decide +kernel
theorem dX10_areNear_5 : decode cX10_areNear 5 = .ok (.iaload, 1) := by decide +kernel
theorem dX10_areNear_6 : decode cX10_areNear 6 = .ok (.aload_n 0, 1) := by decide +kernel
theorem dX10_areNear_7 : decode cX10_areNear 7 = .ok (.getfield 7, 3) := by decide +kernel
theorem dX10_areNear_10 : decode cX10_areNear 10 = .ok (.iload_n 2, 1) := by decide +kernel
theorem dX10_areNear_11 : decode cX10_areNear 11 = .ok (.iaload, 1) := by decide +kernel
theorem dX10_areNear_12 : decode cX10_areNear 12 = .ok (.invokestatic 108, 3) := by decide +kernel
theorem dX10_areNear_15 : decode cX10_areNear 15 = .ok (.istore_n 3, 1) := by decide +kernel
theorem dX10_areNear_16 : decode cX10_areNear 16 = .ok (.iload_n 3, 1) := by decide +kernel
theorem dX10_areNear_17 : decode cX10_areNear 17 = .ok (.iconst 1, 1) := by decide +kernel
theorem dX10_areNear_18 : decode cX10_areNear 18 = .ok (.if_icmp .lt 12, 3) := by decide +kernel
theorem dX10_areNear_21 : decode cX10_areNear 21 = .ok (.aload_n 0, 1) := by decide +kernel
theorem dX10_areNear_22 : decode cX10_areNear 22 = .ok (.iload_n 1, 1) := by decide +kernel
theorem dX10_areNear_23 : decode cX10_areNear 23 = .ok (.iload_n 2, 1) := by decide +kernel
theorem dX10_areNear_24 : decode cX10_areNear 24 = .ok (.invokevirtual 112, 3) := by decide +kernel
theorem dX10_areNear_27 : decode cX10_areNear 27 = .ok (.ifCond .eq 5, 3) := by decide +kernel
theorem dX10_areNear_30 : decode cX10_areNear 30 = .ok (.iconst 0, 1) := by decide +kernel
theorem dX10_areNear_31 : decode cX10_areNear 31 = .ok (.ireturn, 1) := by decide +kernel
theorem dX10_areNear_32 : decode cX10_areNear 32 = .ok (.iload_n 3, 1) := by decide +kernel
theorem dX10_areNear_33 : decode cX10_areNear 33 = .ok (.bipush 6, 2) := by decide +kernel
theorem dX10_areNear_35 : decode cX10_areNear 35 = .ok (.if_icmp .lt 57, 3) := by decide +kernel
theorem dX10_areNear_38 : decode cX10_areNear 38 = .ok (.aload_n 0, 1) := by decide +kernel
theorem dX10_areNear_39 : decode cX10_areNear 39 = .ok (.iload_n 1, 1) := by decide +kernel
theorem dX10_areNear_40 : decode cX10_areNear 40 = .ok (.iload_n 3, 1) := by decide +kernel
theorem dX10_areNear_41 : decode cX10_areNear 41 = .ok (.invokevirtual 88, 3) := by decide +kernel
theorem dX10_areNear_44 : decode cX10_areNear 44 = .ok (.dstore 4, 2) := by decide +kernel
theorem dX10_areNear_46 : decode cX10_areNear 46 = .ok (.aload_n 0, 1) := by decide +kernel
theorem dX10_areNear_47 : decode cX10_areNear 47 = .ok (.iload_n 2, 1) := by decide +kernel
theorem dX10_areNear_48 : decode cX10_areNear 48 = .ok (.iload_n 3, 1) := by decide +kernel
theorem dX10_areNear_49 : decode cX10_areNear 49 = .ok (.invokevirtual 88, 3) := by decide +kernel
theorem dX10_areNear_52 : decode cX10_areNear 52 = .ok (.dstore 6, 2) := by decide +kernel
theorem dX10_areNear_54 : decode cX10_areNear 54 = .ok (.dload 4, 2) := by decide +kernel
theorem dX10_areNear_56 : decode cX10_areNear 56 = .ok (.dload 6, 2) := by decide +kernel
theorem dX10_areNear_58 : decode cX10_areNear 58 = .ok (.dcmp .l, 1) := by decide +kernel
theorem dX10_areNear_59 : decode cX10_areNear 59 = .ok (.ifCond .le 11, 3) := by decide +kernel
theorem dX10_areNear_62 : decode cX10_areNear 62 = .ok (.dload 4, 2) := by decide +kernel
theorem dX10_areNear_64 : decode cX10_areNear 64 = .ok (.dload 6, 2) := by decide +kernel
theorem dX10_areNear_66 : decode cX10_areNear 66 = .ok (.dsub, 1) := by decide +kernel
theorem dX10_areNear_67 : decode cX10_areNear 67 = .ok (.goto 8, 3) := by decide +kernel
theorem dX10_areNear_70 : decode cX10_areNear 70 = .ok (.dload 6, 2) := by decide +kernel
theorem dX10_areNear_72 : decode cX10_areNear 72 = .ok (.dload 4, 2) := by decide +kernel
theorem dX10_areNear_74 : decode cX10_areNear 74 = .ok (.dsub, 1) := by decide +kernel
theorem dX10_areNear_75 : decode cX10_areNear 75 = .ok (.aload_n 0, 1) := by decide +kernel
theorem dX10_areNear_76 : decode cX10_areNear 76 = .ok (.getfield 30, 3) := by decide +kernel
theorem dX10_areNear_79 : decode cX10_areNear 79 = .ok (.iconst 0, 1) := by decide +kernel
theorem dX10_areNear_80 : decode cX10_areNear 80 = .ok (.iaload, 1) := by decide +kernel
theorem dX10_areNear_81 : decode cX10_areNear 81 = .ok (.i2d, 1) := by decide +kernel
theorem dX10_areNear_82 : decode cX10_areNear 82 = .ok (.dcmp .g, 1) := by decide +kernel
theorem dX10_areNear_83 : decode cX10_areNear 83 = .ok (.ifCond .gt 7, 3) := by decide +kernel
theorem dX10_areNear_86 : decode cX10_areNear 86 = .ok (.iconst 1, 1) := by decide +kernel
theorem dX10_areNear_87 : decode cX10_areNear 87 = .ok (.goto 4, 3) := by decide +kernel
theorem dX10_areNear_90 : decode cX10_areNear 90 = .ok (.iconst 0, 1) := by decide +kernel
theorem dX10_areNear_91 : decode cX10_areNear 91 = .ok (.ireturn, 1) := by decide +kernel
theorem dX10_areNear_92 : decode cX10_areNear 92 = .ok (.aload_n 0, 1) := by decide +kernel
theorem dX10_areNear_93 : decode cX10_areNear 93 = .ok (.getfield 13, 3) := by decide +kernel
theorem dX10_areNear_96 : decode cX10_areNear 96 = .ok (.iload_n 1, 1) := by decide +kernel
theorem dX10_areNear_97 : decode cX10_areNear 97 = .ok (.laload, 1) := by decide +kernel
theorem dX10_areNear_98 : decode cX10_areNear 98 = .ok (.aload_n 0, 1) := by decide +kernel
theorem dX10_areNear_99 : decode cX10_areNear 99 = .ok (.getfield 13, 3) := by decide +kernel
theorem dX10_areNear_102 : decode cX10_areNear 102 = .ok (.iload_n 2, 1) := by decide +kernel
theorem dX10_areNear_103 : decode cX10_areNear 103 = .ok (.laload, 1) := by decide +kernel
theorem dX10_areNear_104 : decode cX10_areNear 104 = .ok (.lcmp, 1) := by decide +kernel
theorem dX10_areNear_105 : decode cX10_areNear 105 = .ok (.ifCond .le 19, 3) := by decide +kernel
theorem dX10_areNear_108 : decode cX10_areNear 108 = .ok (.aload_n 0, 1) := by decide +kernel
theorem dX10_areNear_109 : decode cX10_areNear 109 = .ok (.getfield 13, 3) := by decide +kernel
theorem dX10_areNear_112 : decode cX10_areNear 112 = .ok (.iload_n 1, 1) := by decide +kernel
theorem dX10_areNear_113 : decode cX10_areNear 113 = .ok (.laload, 1) := by decide +kernel
theorem dX10_areNear_114 : decode cX10_areNear 114 = .ok (.aload_n 0, 1) := by decide +kernel
theorem dX10_areNear_115 : decode cX10_areNear 115 = .ok (.getfield 13, 3) := by decide +kernel
theorem dX10_areNear_118 : decode cX10_areNear 118 = .ok (.iload_n 2, 1) := by decide +kernel
theorem dX10_areNear_119 : decode cX10_areNear 119 = .ok (.laload, 1) := by decide +kernel
theorem dX10_areNear_120 : decode cX10_areNear 120 = .ok (.lsub, 1) := by decide +kernel
theorem dX10_areNear_121 : decode cX10_areNear 121 = .ok (.goto 16, 3) := by decide +kernel
theorem dX10_areNear_124 : decode cX10_areNear 124 = .ok (.aload_n 0, 1) := by decide +kernel
theorem dX10_areNear_125 : decode cX10_areNear 125 = .ok (.getfield 13, 3) := by decide +kernel
theorem dX10_areNear_128 : decode cX10_areNear 128 = .ok (.iload_n 2, 1) := by decide +kernel
theorem dX10_areNear_129 : decode cX10_areNear 129 = .ok (.laload, 1) := by decide +kernel
theorem dX10_areNear_130 : decode cX10_areNear 130 = .ok (.aload_n 0, 1) := by decide +kernel
theorem dX10_areNear_131 : decode cX10_areNear 131 = .ok (.getfield 13, 3) := by decide +kernel
theorem dX10_areNear_134 : decode cX10_areNear 134 = .ok (.iload_n 1, 1) := by decide +kernel
theorem dX10_areNear_135 : decode cX10_areNear 135 = .ok (.laload, 1) := by decide +kernel
theorem dX10_areNear_136 : decode cX10_areNear 136 = .ok (.lsub, 1) := by decide +kernel
theorem dX10_areNear_137 : decode cX10_areNear 137 = .ok (.lstore 4, 2) := by decide +kernel
theorem dX10_areNear_139 : decode cX10_areNear 139 = .ok (.lload 4, 2) := by decide +kernel
theorem dX10_areNear_141 : decode cX10_areNear 141 = .ok (.lconst 0, 1) := by decide +kernel
theorem dX10_areNear_142 : decode cX10_areNear 142 = .ok (.lcmp, 1) := by decide +kernel
theorem dX10_areNear_143 : decode cX10_areNear 143 = .ok (.ifCond .lt 20, 3) := by decide +kernel
theorem dX10_areNear_146 : decode cX10_areNear 146 = .ok (.lload 4, 2) := by decide +kernel
theorem dX10_areNear_148 : decode cX10_areNear 148 = .ok (.aload_n 0, 1) := by decide +kernel
theorem dX10_areNear_149 : decode cX10_areNear 149 = .ok (.getfield 30, 3) := by decide +kernel
theorem dX10_areNear_152 : decode cX10_areNear 152 = .ok (.iconst 0, 1) := by decide +kernel
theorem dX10_areNear_153 : decode cX10_areNear 153 = .ok (.iaload, 1) := by decide +kernel
theorem dX10_areNear_154 : decode cX10_areNear 154 = .ok (.i2l, 1) := by decide +kernel
theorem dX10_areNear_155 : decode cX10_areNear 155 = .ok (.lcmp, 1) := by decide +kernel
theorem dX10_areNear_156 : decode cX10_areNear 156 = .ok (.ifCond .gt 7, 3) := by decide +kernel
theorem dX10_areNear_159 : decode cX10_areNear 159 = .ok (.iconst 1, 1) := by decide +kernel
theorem dX10_areNear_160 : decode cX10_areNear 160 = .ok (.goto 4, 3) := by decide +kernel
theorem dX10_areNear_163 : decode cX10_areNear 163 = .ok (.iconst 0, 1) := by decide +kernel
theorem dX10_areNear_164 : decode cX10_areNear 164 = .ok (.ireturn, 1) := by decide +kernel
theorem dX10_likeness_0 : decode cX10_likeness 0 = .ok (.aload_n 0, 1) := by decide +kernel
theorem dX10_likeness_1 : decode cX10_likeness 1 = .ok (.iload_n 1, 1) := by decide +kernel
theorem dX10_likeness_2 : decode cX10_likeness 2 = .ok (.iload_n 2, 1) := by decide +kernel
theorem dX10_likeness_3 : decode cX10_likeness 3 = .ok (.invokevirtual 112, 3) := by decide +kernel
theorem dX10_likeness_6 : decode cX10_likeness 6 = .ok (.ifCond .eq 7, 3) := by decide +kernel
theorem dX10_likeness_9 : decode cX10_likeness 9 = .ok (.iconst 0, 1) := by decide +kernel
theorem dX10_likeness_10 : decode cX10_likeness 10 = .ok (.goto 17, 3) := by decide +kernel
theorem dX10_likeness_13 : decode cX10_likeness 13 = .ok (.aload_n 0, 1) := by decide +kernel
theorem dX10_likeness_14 : decode cX10_likeness 14 = .ok (.iload_n 1, 1) := by decide +kernel
theorem dX10_likeness_15 : decode cX10_likeness 15 = .ok (.iload_n 2, 1) := by decide +kernel
theorem dX10_likeness_16 : decode cX10_likeness 16 = .ok (.invokevirtual 115, 3) := by decide +kernel
theorem dX10_likeness_19 : decode cX10_likeness 19 = .ok (.ifCond .eq 7, 3) := by decide +kernel
theorem dX10_likeness_22 : decode cX10_likeness 22 = .ok (.iconst 1, 1) := by decide +kernel
theorem dX10_likeness_23 : decode cX10_likeness 23 = .ok (.goto 4, 3) := by decide +kernel
theorem dX10_likeness_26 : decode cX10_likeness 26 = .ok (.iconst 2, 1) := by decide +kernel
theorem dX10_likeness_27 : decode cX10_likeness 27 = .ok (.ireturn, 1) := by decide +kernel
theorem dX10_values_0 : decode cX10_values 0 = .ok (.iload_n 2, 1) := by decide +kernel
theorem dX10_values_1 : decode cX10_values 1 = .ok (.tableswitch 175 0 10 #[59, 73, 86, 101, 175, 175, 114, 130, 175, 146, 157], 59) := by decide +kernel
theorem dX10_values_60 : decode cX10_values 60 = .ok (.aload_n 0, 1) := by decide +kernel
theorem dX10_values_61 : decode cX10_values 61 = .ok (.iload_n 1, 1) := by decide +kernel
theorem dX10_values_62 : decode cX10_values 62 = .ok (.iload_n 2, 1) := by decide +kernel
theorem dX10_values_63 : decode cX10_values 63 = .ok (.iload_n 3, 1) := by decide +kernel
theorem dX10_values_64 : decode cX10_values 64 = .ok (.iconst 1, 1) := by decide +kernel
theorem dX10_values_65 : decode cX10_values 65 = .ok (.iand, 1) := by decide +kernel
theorem dX10_values_66 : decode cX10_values 66 = .ok (.i2l, 1) := by decide +kernel
theorem dX10_values_67 : decode cX10_values 67 = .ok (.dconst 0, 1) := by decide +kernel
theorem dX10_values_68 : decode cX10_values 68 = .ok (.invokevirtual 84, 3) := by decide +kernel
theorem dX10_values_71 : decode cX10_values 71 = .ok (.goto 114, 3) := by decide +kernel
theorem dX10_values_74 : decode cX10_values 74 = .ok (.aload_n 0, 1) := by decide +kernel
theorem dX10_values_75 : decode cX10_values 75 = .ok (.iload_n 1, 1) := by decide +kernel
theorem dX10_values_76 : decode cX10_values 76 = .ok (.iload_n 2, 1) := by decide +kernel
theorem dX10_values_77 : decode cX10_values 77 = .ok (.iload_n 3, 1) := by decide +kernel
theorem dX10_values_78 : decode cX10_values 78 = .ok (.i2b, 1) := by decide +kernel
theorem dX10_values_79 : decode cX10_values 79 = .ok (.i2l, 1) := by decide +kernel
theorem dX10_values_80 : decode cX10_values 80 = .ok (.dconst 0, 1) := by decide +kernel
theorem dX10_values_81 : decode cX10_values 81 = .ok (.invokevirtual 84, 3) := by decide +kernel
theorem dX10_values_84 : decode cX10_values 84 = .ok (.goto 101, 3) := by decide +kernel
theorem dX10_values_87 : decode cX10_values 87 = .ok (.aload_n 0, 1) := by decide +kernel
theorem dX10_values_88 : decode cX10_values 88 = .ok (.iload_n 1, 1) := by decide +kernel
theorem dX10_values_89 : decode cX10_values 89 = .ok (.iload_n 2, 1) := by decide +kernel
theorem dX10_values_90 : decode cX10_values 90 = .ok (.iload_n 3, 1) := by decide +kernel
theorem dX10_values_91 : decode cX10_values 91 = .ok (.ldc 118, 2) := by decide +kernel
theorem dX10_values_93 : decode cX10_values 93 = .ok (.iand, 1) := by decide +kernel
theorem dX10_values_94 : decode cX10_values 94 = .ok (.i2l, 1) := by decide +kernel
theorem dX10_values_95 : decode cX10_values 95 = .ok (.dconst 0, 1) := by decide +kernel
theorem dX10_values_96 : decode cX10_values 96 = .ok (.invokevirtual 84, 3) := by decide +kernel
theorem dX10_values_99 : decode cX10_values 99 = .ok (.goto 86, 3) := by decide +kernel
theorem dX10_values_102 : decode cX10_values 102 = .ok (.aload_n 0, 1) := by decide +kernel
theorem dX10_values_103 : decode cX10_values 103 = .ok (.iload_n 1, 1) := by decide +kernel
theorem dX10_values_104 : decode cX10_values 104 = .ok (.iload_n 2, 1) := by decide +kernel
theorem dX10_values_105 : decode cX10_values 105 = .ok (.iload_n 3, 1) := by decide +kernel
theorem dX10_values_106 : decode cX10_values 106 = .ok (.i2s, 1) := by decide +kernel
theorem dX10_values_107 : decode cX10_values 107 = .ok (.i2l, 1) := by decide +kernel
theorem dX10_values_108 : decode cX10_values 108 = .ok (.dconst 0, 1) := by decide +kernel
theorem dX10_values_109 : decode cX10_values 109 = .ok (.invokevirtual 84, 3) := by decide +kernel
theorem dX10_values_112 : decode cX10_values 112 = .ok (.goto 73, 3) := by decide +kernel
theorem dX10_values_115 : decode cX10_values 115 = .ok (.aload_n 0, 1) := by decide +kernel
theorem dX10_values_116 : decode cX10_values 116 = .ok (.iload_n 1, 1) := by decide +kernel
theorem dX10_values_117 : decode cX10_values 117 = .ok (.iload_n 2, 1) := by decide +kernel
theorem dX10_values_118 : decode cX10_values 118 = .ok (.lconst 0, 1) := by decide +kernel
theorem dX10_values_119 : decode cX10_values 119 = .ok (.iload_n 3, 1) := by decide +kernel
theorem dX10_values_120 : decode cX10_values 120 = .ok (.i2f, 1) := by decide +kernel
theorem dX10_values_121 : decode cX10_values 121 = .ok (.ldc 119, 2) := by decide +kernel
theorem dX10_values_123 : decode cX10_values 123 = .ok (.fmul, 1) := by decide +kernel
theorem dX10_values_124 : decode cX10_values 124 = .ok (.f2d, 1) := by decide +kernel
theorem dX10_values_125 : decode cX10_values 125 = .ok (.invokevirtual 84, 3) := by decide +kernel
theorem dX10_values_128 : decode cX10_values 128 = .ok (.goto 57, 3) := by decide +kernel
theorem dX10_values_131 : decode cX10_values 131 = .ok (.aload_n 0, 1) := by decide +kernel
theorem dX10_values_132 : decode cX10_values 132 = .ok (.iload_n 1, 1) := by decide +kernel
theorem dX10_values_133 : decode cX10_values 133 = .ok (.iload_n 2, 1) := by decide +kernel
theorem dX10_values_134 : decode cX10_values 134 = .ok (.lconst 0, 1) := by decide +kernel
theorem dX10_values_135 : decode cX10_values 135 = .ok (.iload_n 3, 1) := by decide +kernel
theorem dX10_values_136 : decode cX10_values 136 = .ok (.i2d, 1) := by decide +kernel
theorem dX10_values_137 : decode cX10_values 137 = .ok (.ldc2_w 120, 3) := by decide +kernel
theorem dX10_values_140 : decode cX10_values 140 = .ok (.dmul, 1) := by decide +kernel
theorem dX10_values_141 : decode cX10_values 141 = .ok (.invokevirtual 84, 3) := by decide +kernel
theorem dX10_values_144 : decode cX10_values 144 = .ok (.goto 41, 3) := by decide +kernel
theorem dX10_values_147 : decode cX10_values 147 = .ok (.aload_n 0, 1) := by decide +kernel
theorem dX10_values_148 : decode cX10_values 148 = .ok (.iload_n 1, 1) := by decide +kernel
theorem dX10_values_149 : decode cX10_values 149 = .ok (.iload_n 2, 1) := by decide +kernel
theorem dX10_values_150 : decode cX10_values 150 = .ok (.lconst 0, 1) := by decide +kernel
theorem dX10_values_151 : decode cX10_values 151 = .ok (.dconst 0, 1) := by decide +kernel
theorem dX10_values_152 : decode cX10_values 152 = .ok (.invokevirtual 84, 3) := by decide +kernel
theorem dX10_values_155 : decode cX10_values 155 = .ok (.goto 30, 3) := by decide +kernel
theorem dX10_values_158 : decode cX10_values 158 = .ok (.aload_n 0, 1) := by decide +kernel
theorem dX10_values_159 : decode cX10_values 159 = .ok (.iload_n 1, 1) := by decide +kernel
theorem dX10_values_160 : decode cX10_values 160 = .ok (.iload_n 2, 1) := by decide +kernel
theorem dX10_values_161 : decode cX10_values 161 = .ok (.iload_n 3, 1) := by decide +kernel
theorem dX10_values_162 : decode cX10_values 162 = .ok (.iconst 5, 1) := by decide +kernel
theorem dX10_values_163 : decode cX10_values 163 = .ok (.irem, 1) := by decide +kernel
theorem dX10_values_164 : decode cX10_values 164 = .ok (.iconst 5, 1) := by decide +kernel
theorem dX10_values_165 : decode cX10_values 165 = .ok (.iadd, 1) := by decide +kernel
theorem dX10_values_166 : decode cX10_values 166 = .ok (.iconst 5, 1) := by decide +kernel
theorem dX10_values_167 : decode cX10_values 167 = .ok (.irem, 1) := by decide +kernel
theorem dX10_values_168 : decode cX10_values 168 = .ok (.i2l, 1) := by decide +kernel
theorem dX10_values_169 : decode cX10_values 169 = .ok (.dconst 0, 1) := by decide +kernel
theorem dX10_values_170 : decode cX10_values 170 = .ok (.invokevirtual 84, 3) := by decide +kernel
theorem dX10_values_173 : decode cX10_values 173 = .ok (.goto 12, 3) := by decide +kernel
theorem dX10_values_176 : decode cX10_values 176 = .ok (.aload_n 0, 1) := by decide +kernel
theorem dX10_values_177 : decode cX10_values 177 = .ok (.iload_n 1, 1) := by decide +kernel
theorem dX10_values_178 : decode cX10_values 178 = .ok (.iload_n 2, 1) := by decide +kernel
theorem dX10_values_179 : decode cX10_values 179 = .ok (.iload_n 3, 1) := by decide +kernel
theorem dX10_values_180 : decode cX10_values 180 = .ok (.i2l, 1) := by decide +kernel
theorem dX10_values_181 : decode cX10_values 181 = .ok (.dconst 0, 1) := by decide +kernel
theorem dX10_values_182 : decode cX10_values 182 = .ok (.invokevirtual 84, 3) := by decide +kernel
theorem dX10_values_185 : decode cX10_values 185 = .ok (.return_, 1) := by decide +kernel
theorem dX10_isRecord_0 : decode cX10_isRecord 0 = .ok (.iload_n 0, 1) := by decide +kernel
theorem dX10_isRecord_1 : decode cX10_isRecord 1 = .ok (.i2l, 1) := by decide +kernel
theorem dX10_isRecord_2 : decode cX10_isRecord 2 = .ok (.lconst 0, 1) := by decide +kernel
theorem dX10_isRecord_3 : decode cX10_isRecord 3 = .ok (.ldc2_w 70, 3) := by decide +kernel
theorem dX10_isRecord_6 : decode cX10_isRecord 6 = .ok (.invokestatic 72, 3) := by decide +kernel
theorem dX10_isRecord_9 : decode cX10_isRecord 9 = .ok (.ireturn, 1) := by decide +kernel
theorem dX10_isKind_0 : decode cX10_isKind 0 = .ok (.iload_n 0, 1) := by decide +kernel
theorem dX10_isKind_1 : decode cX10_isKind 1 = .ok (.i2l, 1) := by decide +kernel
theorem dX10_isKind_2 : decode cX10_isKind 2 = .ok (.lconst 0, 1) := by decide +kernel
theorem dX10_isKind_3 : decode cX10_isKind 3 = .ok (.ldc2_w 70, 3) := by decide +kernel
theorem dX10_isKind_6 : decode cX10_isKind 6 = .ok (.invokestatic 72, 3) := by decide +kernel
theorem dX10_isKind_9 : decode cX10_isKind 9 = .ok (.ireturn, 1) := by decide +kernel
theorem dX10_isSort_0 : decode cX10_isSort 0 = .ok (.iload_n 0, 1) := by decide +kernel
theorem dX10_isSort_1 : decode cX10_isSort 1 = .ok (.i2l, 1) := by decide +kernel
theorem dX10_isSort_2 : decode cX10_isSort 2 = .ok (.lconst 0, 1) := by decide +kernel
theorem dX10_isSort_3 : decode cX10_isSort 3 = .ok (.ldc2_w 122, 3) := by decide +kernel
theorem dX10_isSort_6 : decode cX10_isSort 6 = .ok (.invokestatic 72, 3) := by decide +kernel
theorem dX10_isSort_9 : decode cX10_isSort 9 = .ok (.ireturn, 1) := by decide +kernel
theorem dX10_rowFault_0 : decode cX10_rowFault 0 = .ok (.aload_n 0, 1) := by decide +kernel
theorem dX10_rowFault_1 : decode cX10_rowFault 1 = .ok (.getfield 27, 3) := by decide +kernel
theorem dX10_rowFault_4 : decode cX10_rowFault 4 = .ok (.iload_n 1, 1) := by decide +kernel
theorem dX10_rowFault_5 : decode cX10_rowFault 5 = .ok (.iaload, 1) := by decide +kernel
theorem dX10_rowFault_6 : decode cX10_rowFault 6 = .ok (.iconst (-1), 1) := by decide +kernel
theorem dX10_rowFault_7 : decode cX10_rowFault 7 = .ok (.if_icmp .ne 7, 3) := by decide +kernel
theorem dX10_rowFault_10 : decode cX10_rowFault 10 = .ok (.iconst 1, 1) := by decide +kernel
theorem dX10_rowFault_11 : decode cX10_rowFault 11 = .ok (.goto 19, 3) := by decide +kernel
theorem dX10_rowFault_14 : decode cX10_rowFault 14 = .ok (.aload_n 0, 1) := by decide +kernel
theorem dX10_rowFault_15 : decode cX10_rowFault 15 = .ok (.getfield 27, 3) := by decide +kernel
theorem dX10_rowFault_18 : decode cX10_rowFault 18 = .ok (.iload_n 1, 1) := by decide +kernel
theorem dX10_rowFault_19 : decode cX10_rowFault 19 = .ok (.iaload, 1) := by decide +kernel
theorem dX10_rowFault_20 : decode cX10_rowFault 20 = .ok (.bipush (-2), 2) := by decide +kernel
theorem dX10_rowFault_22 : decode cX10_rowFault 22 = .ok (.if_icmp .ne 7, 3) := by decide +kernel
theorem dX10_rowFault_25 : decode cX10_rowFault 25 = .ok (.iconst 2, 1) := by decide +kernel
theorem dX10_rowFault_26 : decode cX10_rowFault 26 = .ok (.goto 4, 3) := by decide +kernel
theorem dX10_rowFault_29 : decode cX10_rowFault 29 = .ok (.iconst 0, 1) := by decide +kernel
theorem dX10_rowFault_30 : decode cX10_rowFault 30 = .ok (.ireturn, 1) := by decide +kernel
theorem dX10_cellFault_0 : decode cX10_cellFault 0 = .ok (.aload_n 0, 1) := by decide +kernel
theorem dX10_cellFault_1 : decode cX10_cellFault 1 = .ok (.iload_n 1, 1) := by decide +kernel
theorem dX10_cellFault_2 : decode cX10_cellFault 2 = .ok (.invokevirtual 124, 3) := by decide +kernel
theorem dX10_cellFault_5 : decode cX10_cellFault 5 = .ok (.istore 4, 2) := by decide +kernel
theorem dX10_cellFault_7 : decode cX10_cellFault 7 = .ok (.iload 4, 2) := by decide +kernel
theorem dX10_cellFault_9 : decode cX10_cellFault 9 = .ok (.ifCond .le 8, 3) := by decide +kernel
theorem dX10_cellFault_12 : decode cX10_cellFault 12 = .ok (.iload 4, 2) := by decide +kernel
theorem dX10_cellFault_14 : decode cX10_cellFault 14 = .ok (.goto 30, 3) := by decide +kernel
theorem dX10_cellFault_17 : decode cX10_cellFault 17 = .ok (.lload_n 2, 1) := by decide +kernel
theorem dX10_cellFault_18 : decode cX10_cellFault 18 = .ok (.lconst 0, 1) := by decide +kernel
theorem dX10_cellFault_19 : decode cX10_cellFault 19 = .ok (.aload_n 0, 1) := by decide +kernel
theorem dX10_cellFault_20 : decode cX10_cellFault 20 = .ok (.getfield 24, 3) := by decide +kernel
theorem dX10_cellFault_23 : decode cX10_cellFault 23 = .ok (.aload_n 0, 1) := by decide +kernel
theorem dX10_cellFault_24 : decode cX10_cellFault 24 = .ok (.getfield 27, 3) := by decide +kernel
theorem dX10_cellFault_27 : decode cX10_cellFault 27 = .ok (.iload_n 1, 1) := by decide +kernel
theorem dX10_cellFault_28 : decode cX10_cellFault 28 = .ok (.iaload, 1) := by decide +kernel
theorem dX10_cellFault_29 : decode cX10_cellFault 29 = .ok (.iaload, 1) := by decide +kernel
theorem dX10_cellFault_30 : decode cX10_cellFault 30 = .ok (.iconst 1, 1) := by decide +kernel
theorem dX10_cellFault_31 : decode cX10_cellFault 31 = .ok (.isub, 1) := by decide +kernel
theorem dX10_cellFault_32 : decode cX10_cellFault 32 = .ok (.i2l, 1) := by decide +kernel
theorem dX10_cellFault_33 : decode cX10_cellFault 33 = .ok (.invokestatic 72, 3) := by decide +kernel
theorem dX10_cellFault_36 : decode cX10_cellFault 36 = .ok (.ifCond .eq 7, 3) := by decide +kernel
theorem dX10_cellFault_39 : decode cX10_cellFault 39 = .ok (.iconst 0, 1) := by decide +kernel
theorem dX10_cellFault_40 : decode cX10_cellFault 40 = .ok (.goto 4, 3) := by decide +kernel
theorem dX10_cellFault_43 : decode cX10_cellFault 43 = .ok (.iconst 3, 1) := by decide +kernel
theorem dX10_cellFault_44 : decode cX10_cellFault 44 = .ok (.ireturn, 1) := by decide +kernel
theorem dX10_cellAt_0 : decode cX10_cellAt 0 = .ok (.bipush 20, 2) := by decide +kernel
theorem dX10_cellAt_2 : decode cX10_cellAt 2 = .ok (.aload_n 0, 1) := by decide +kernel
theorem dX10_cellAt_3 : decode cX10_cellAt 3 = .ok (.getfield 27, 3) := by decide +kernel
theorem dX10_cellAt_6 : decode cX10_cellAt 6 = .ok (.iload_n 1, 1) := by decide +kernel
theorem dX10_cellAt_7 : decode cX10_cellAt 7 = .ok (.iaload, 1) := by decide +kernel
theorem dX10_cellAt_8 : decode cX10_cellAt 8 = .ok (.imul, 1) := by decide +kernel
theorem dX10_cellAt_9 : decode cX10_cellAt 9 = .ok (.iload_n 2, 1) := by decide +kernel
theorem dX10_cellAt_10 : decode cX10_cellAt 10 = .ok (.iadd, 1) := by decide +kernel
theorem dX10_cellAt_11 : decode cX10_cellAt 11 = .ok (.ireturn, 1) := by decide +kernel
theorem dX10_kindOf_0 : decode cX10_kindOf 0 = .ok (.aload_n 0, 1) := by decide +kernel
theorem dX10_kindOf_1 : decode cX10_kindOf 1 = .ok (.getfield 21, 3) := by decide +kernel
theorem dX10_kindOf_4 : decode cX10_kindOf 4 = .ok (.aload_n 0, 1) := by decide +kernel
theorem dX10_kindOf_5 : decode cX10_kindOf 5 = .ok (.getfield 27, 3) := by decide +kernel
theorem dX10_kindOf_8 : decode cX10_kindOf 8 = .ok (.iload_n 1, 1) := by decide +kernel
theorem dX10_kindOf_9 : decode cX10_kindOf 9 = .ok (.iaload, 1) := by decide +kernel
theorem dX10_kindOf_10 : decode cX10_kindOf 10 = .ok (.iaload, 1) := by decide +kernel
theorem dX10_kindOf_11 : decode cX10_kindOf 11 = .ok (.ireturn, 1) := by decide +kernel
theorem dX10_sizeOf_0 : decode cX10_sizeOf 0 = .ok (.aload_n 0, 1) := by decide +kernel
theorem dX10_sizeOf_1 : decode cX10_sizeOf 1 = .ok (.getfield 24, 3) := by decide +kernel
theorem dX10_sizeOf_4 : decode cX10_sizeOf 4 = .ok (.aload_n 0, 1) := by decide +kernel
theorem dX10_sizeOf_5 : decode cX10_sizeOf 5 = .ok (.getfield 27, 3) := by decide +kernel
theorem dX10_sizeOf_8 : decode cX10_sizeOf 8 = .ok (.iload_n 1, 1) := by decide +kernel
theorem dX10_sizeOf_9 : decode cX10_sizeOf 9 = .ok (.iaload, 1) := by decide +kernel
theorem dX10_sizeOf_10 : decode cX10_sizeOf 10 = .ok (.iaload, 1) := by decide +kernel
theorem dX10_sizeOf_11 : decode cX10_sizeOf 11 = .ok (.ireturn, 1) := by decide +kernel
theorem dX10_isHeld_0 : decode cX10_isHeld 0 = .ok (.iconst 0, 1) := by decide +kernel
theorem dX10_isHeld_1 : decode cX10_isHeld 1 = .ok (.istore_n 2, 1) := by decide +kernel
theorem dX10_isHeld_2 : decode cX10_isHeld 2 = .ok (.iconst 0, 1) := by decide +kernel
theorem dX10_isHeld_3 : decode cX10_isHeld 3 = .ok (.istore_n 3, 1) := by decide +kernel
theorem dX10_isHeld_4 : decode cX10_isHeld 4 = .ok (.iload_n 3, 1) := by decide +kernel
theorem dX10_isHeld_5 : decode cX10_isHeld 5 = .ok (.bipush 8, 2) := by decide +kernel
theorem dX10_isHeld_7 : decode cX10_isHeld 7 = .ok (.if_icmp .ge 29, 3) := by decide +kernel
theorem dX10_isHeld_10 : decode cX10_isHeld 10 = .ok (.iload_n 2, 1) := by decide +kernel
theorem dX10_isHeld_11 : decode cX10_isHeld 11 = .ok (.ifCond .ne 13, 3) := by decide +kernel
theorem dX10_isHeld_14 : decode cX10_isHeld 14 = .ok (.aload_n 0, 1) := by decide +kernel
theorem dX10_isHeld_15 : decode cX10_isHeld 15 = .ok (.getfield 27, 3) := by decide +kernel
theorem dX10_isHeld_18 : decode cX10_isHeld 18 = .ok (.iload_n 3, 1) := by decide +kernel
theorem dX10_isHeld_19 : decode cX10_isHeld 19 = .ok (.iaload, 1) := by decide +kernel
theorem dX10_isHeld_20 : decode cX10_isHeld 20 = .ok (.iload_n 1, 1) := by decide +kernel
theorem dX10_isHeld_21 : decode cX10_isHeld 21 = .ok (.if_icmp .ne 7, 3) := by decide +kernel
theorem dX10_isHeld_24 : decode cX10_isHeld 24 = .ok (.iconst 1, 1) := by decide +kernel
theorem dX10_isHeld_25 : decode cX10_isHeld 25 = .ok (.goto 4, 3) := by decide +kernel
theorem dX10_isHeld_28 : decode cX10_isHeld 28 = .ok (.iconst 0, 1) := by decide +kernel
theorem dX10_isHeld_29 : decode cX10_isHeld 29 = .ok (.istore_n 2, 1) := by decide +kernel
theorem dX10_isHeld_30 : decode cX10_isHeld 30 = .ok (.iinc 3 1, 3) := by decide +kernel
theorem dX10_isHeld_33 : decode cX10_isHeld 33 = .ok (.goto (-29), 3) := by decide +kernel
theorem dX10_isHeld_36 : decode cX10_isHeld 36 = .ok (.iload_n 2, 1) := by decide +kernel
theorem dX10_isHeld_37 : decode cX10_isHeld 37 = .ok (.ireturn, 1) := by decide +kernel
theorem dX10_takesRow_0 : decode cX10_takesRow 0 = .ok (.aload_n 0, 1) := by decide +kernel
theorem dX10_takesRow_1 : decode cX10_takesRow 1 = .ok (.getfield 27, 3) := by decide +kernel
theorem dX10_takesRow_4 : decode cX10_takesRow 4 = .ok (.iload_n 1, 1) := by decide +kernel
theorem dX10_takesRow_5 : decode cX10_takesRow 5 = .ok (.iconst (-1), 1) := by decide +kernel
theorem dX10_takesRow_6 : decode cX10_takesRow 6 = .ok (.iastore, 1) := by decide +kernel
theorem dX10_takesRow_7 : decode cX10_takesRow 7 = .ok (.iconst 0, 1) := by decide +kernel
theorem dX10_takesRow_8 : decode cX10_takesRow 8 = .ok (.istore 4, 2) := by decide +kernel
theorem dX10_takesRow_10 : decode cX10_takesRow 10 = .ok (.aload_n 0, 1) := by decide +kernel
theorem dX10_takesRow_11 : decode cX10_takesRow 11 = .ok (.iload 4, 2) := by decide +kernel
theorem dX10_takesRow_13 : decode cX10_takesRow 13 = .ok (.invokevirtual 128, 3) := by decide +kernel
theorem dX10_takesRow_16 : decode cX10_takesRow 16 = .ok (.ifCond .eq 9, 3) := by decide +kernel
theorem dX10_takesRow_19 : decode cX10_takesRow 19 = .ok (.iinc 4 1, 3) := by decide +kernel
theorem dX10_takesRow_22 : decode cX10_takesRow 22 = .ok (.goto (-12), 3) := by decide +kernel
theorem dX10_takesRow_25 : decode cX10_takesRow 25 = .ok (.aload_n 0, 1) := by decide +kernel
theorem dX10_takesRow_26 : decode cX10_takesRow 26 = .ok (.getfield 27, 3) := by decide +kernel
theorem dX10_takesRow_29 : decode cX10_takesRow 29 = .ok (.iload_n 1, 1) := by decide +kernel
theorem dX10_takesRow_30 : decode cX10_takesRow 30 = .ok (.iload 4, 2) := by decide +kernel
theorem dX10_takesRow_32 : decode cX10_takesRow 32 = .ok (.iastore, 1) := by decide +kernel
theorem dX10_takesRow_33 : decode cX10_takesRow 33 = .ok (.aload_n 0, 1) := by decide +kernel
theorem dX10_takesRow_34 : decode cX10_takesRow 34 = .ok (.getfield 21, 3) := by decide +kernel
theorem dX10_takesRow_37 : decode cX10_takesRow 37 = .ok (.iload 4, 2) := by decide +kernel
theorem dX10_takesRow_39 : decode cX10_takesRow 39 = .ok (.iload_n 2, 1) := by decide +kernel
theorem dX10_takesRow_40 : decode cX10_takesRow 40 = .ok (.iastore, 1) := by decide +kernel
theorem dX10_takesRow_41 : decode cX10_takesRow 41 = .ok (.aload_n 0, 1) := by decide +kernel
theorem dX10_takesRow_42 : decode cX10_takesRow 42 = .ok (.getfield 24, 3) := by decide +kernel
theorem dX10_takesRow_45 : decode cX10_takesRow 45 = .ok (.iload 4, 2) := by decide +kernel
theorem dX10_takesRow_47 : decode cX10_takesRow 47 = .ok (.iload_n 3, 1) := by decide +kernel
theorem dX10_takesRow_48 : decode cX10_takesRow 48 = .ok (.iastore, 1) := by decide +kernel
theorem dX10_takesRow_49 : decode cX10_takesRow 49 = .ok (.return_, 1) := by decide +kernel
theorem dX10_takesMade_0 : decode cX10_takesMade 0 = .ok (.aload_n 0, 1) := by decide +kernel
theorem dX10_takesMade_1 : decode cX10_takesMade 1 = .ok (.iload_n 1, 1) := by decide +kernel
theorem dX10_takesMade_2 : decode cX10_takesMade 2 = .ok (.iload_n 2, 1) := by decide +kernel
theorem dX10_takesMade_3 : decode cX10_takesMade 3 = .ok (.iload_n 3, 1) := by decide +kernel
theorem dX10_takesMade_4 : decode cX10_takesMade 4 = .ok (.invokevirtual 131, 3) := by decide +kernel
theorem dX10_takesMade_7 : decode cX10_takesMade 7 = .ok (.iconst 0, 1) := by decide +kernel
theorem dX10_takesMade_8 : decode cX10_takesMade 8 = .ok (.istore 4, 2) := by decide +kernel
theorem dX10_takesMade_10 : decode cX10_takesMade 10 = .ok (.iload 4, 2) := by decide +kernel
theorem dX10_takesMade_12 : decode cX10_takesMade 12 = .ok (.iload_n 3, 1) := by decide +kernel
theorem dX10_takesMade_13 : decode cX10_takesMade 13 = .ok (.if_icmp .ge 27, 3) := by decide +kernel
theorem dX10_takesMade_16 : decode cX10_takesMade 16 = .ok (.aload_n 0, 1) := by decide +kernel
theorem dX10_takesMade_17 : decode cX10_takesMade 17 = .ok (.sipush 520, 3) := by decide +kernel
theorem dX10_takesMade_20 : decode cX10_takesMade 20 = .ok (.iload 4, 2) := by decide +kernel
theorem dX10_takesMade_22 : decode cX10_takesMade 22 = .ok (.iadd, 1) := by decide +kernel
theorem dX10_takesMade_23 : decode cX10_takesMade 23 = .ok (.iload_n 2, 1) := by decide +kernel
theorem dX10_takesMade_24 : decode cX10_takesMade 24 = .ok (.aload_n 0, 1) := by decide +kernel
theorem dX10_takesMade_25 : decode cX10_takesMade 25 = .ok (.iload_n 1, 1) := by decide +kernel
theorem dX10_takesMade_26 : decode cX10_takesMade 26 = .ok (.iload 4, 2) := by decide +kernel
theorem dX10_takesMade_28 : decode cX10_takesMade 28 = .ok (.invokevirtual 135, 3) := by decide +kernel
theorem dX10_takesMade_31 : decode cX10_takesMade 31 = .ok (.invokevirtual 138, 3) := by decide +kernel
theorem dX10_takesMade_34 : decode cX10_takesMade 34 = .ok (.iinc 4 1, 3) := by decide +kernel
theorem dX10_takesMade_37 : decode cX10_takesMade 37 = .ok (.goto (-27), 3) := by decide +kernel
theorem dX10_takesMade_40 : decode cX10_takesMade 40 = .ok (.return_, 1) := by decide +kernel
theorem dX10_record_0 : decode cX10_record 0 = .ok (.iload_n 1, 1) := by decide +kernel
theorem dX10_record_1 : decode cX10_record 1 = .ok (.invokestatic 141, 3) := by decide +kernel
theorem dX10_record_4 : decode cX10_record 4 = .ok (.ifCond .eq 27, 3) := by decide +kernel
theorem dX10_record_7 : decode cX10_record 7 = .ok (.iload_n 2, 1) := by decide +kernel
theorem dX10_record_8 : decode cX10_record 8 = .ok (.i2l, 1) := by decide +kernel
theorem dX10_record_9 : decode cX10_record 9 = .ok (.lconst 0, 1) := by decide +kernel
theorem dX10_record_10 : decode cX10_record 10 = .ok (.ldc2_w 144, 3) := by decide +kernel
theorem dX10_record_13 : decode cX10_record 13 = .ok (.invokestatic 72, 3) := by decide +kernel
theorem dX10_record_16 : decode cX10_record 16 = .ok (.ifCond .eq 15, 3) := by decide +kernel
theorem dX10_record_19 : decode cX10_record 19 = .ok (.iload_n 2, 1) := by decide +kernel
theorem dX10_record_20 : decode cX10_record 20 = .ok (.bipush 10, 2) := by decide +kernel
theorem dX10_record_22 : decode cX10_record 22 = .ok (.if_icmp .gt 11, 3) := by decide +kernel
theorem dX10_record_25 : decode cX10_record 25 = .ok (.iload_n 3, 1) := by decide +kernel
theorem dX10_record_26 : decode cX10_record 26 = .ok (.bipush 20, 2) := by decide +kernel
theorem dX10_record_28 : decode cX10_record 28 = .ok (.if_icmp .le 5, 3) := by decide +kernel
theorem dX10_record_31 : decode cX10_record 31 = .ok (.iconst (-1), 1) := by decide +kernel
theorem dX10_record_32 : decode cX10_record 32 = .ok (.ireturn, 1) := by decide +kernel
theorem dX10_record_33 : decode cX10_record 33 = .ok (.iload_n 2, 1) := by decide +kernel
theorem dX10_record_34 : decode cX10_record 34 = .ok (.bipush 10, 2) := by decide +kernel
theorem dX10_record_36 : decode cX10_record 36 = .ok (.if_icmp .le 23, 3) := by decide +kernel
theorem dX10_record_39 : decode cX10_record 39 = .ok (.aload_n 0, 1) := by decide +kernel
theorem dX10_record_40 : decode cX10_record 40 = .ok (.getfield 27, 3) := by decide +kernel
theorem dX10_record_43 : decode cX10_record 43 = .ok (.iload_n 1, 1) := by decide +kernel
theorem dX10_record_44 : decode cX10_record 44 = .ok (.iload_n 2, 1) := by decide +kernel
theorem dX10_record_45 : decode cX10_record 45 = .ok (.bipush 11, 2) := by decide +kernel
theorem dX10_record_47 : decode cX10_record 47 = .ok (.if_icmp .ne 8, 3) := by decide +kernel
theorem dX10_record_50 : decode cX10_record 50 = .ok (.bipush (-2), 2) := by decide +kernel
theorem dX10_record_52 : decode cX10_record 52 = .ok (.goto 4, 3) := by decide +kernel
theorem dX10_record_55 : decode cX10_record 55 = .ok (.iconst (-1), 1) := by decide +kernel
theorem dX10_record_56 : decode cX10_record 56 = .ok (.iastore, 1) := by decide +kernel
theorem dX10_record_57 : decode cX10_record 57 = .ok (.iconst 1, 1) := by decide +kernel
theorem dX10_record_58 : decode cX10_record 58 = .ok (.ireturn, 1) := by decide +kernel
theorem dX10_record_59 : decode cX10_record 59 = .ok (.iload_n 3, 1) := by decide +kernel
theorem dX10_record_60 : decode cX10_record 60 = .ok (.ifCond .ge 6, 3) := by decide +kernel
theorem dX10_record_63 : decode cX10_record 63 = .ok (.bipush (-16), 2) := by decide +kernel
theorem dX10_record_65 : decode cX10_record 65 = .ok (.ireturn, 1) := by decide +kernel
theorem dX10_record_66 : decode cX10_record 66 = .ok (.aload_n 0, 1) := by decide +kernel
theorem dX10_record_67 : decode cX10_record 67 = .ok (.iload_n 1, 1) := by decide +kernel
theorem dX10_record_68 : decode cX10_record 68 = .ok (.iload_n 2, 1) := by decide +kernel
theorem dX10_record_69 : decode cX10_record 69 = .ok (.iload_n 3, 1) := by decide +kernel
theorem dX10_record_70 : decode cX10_record 70 = .ok (.invokevirtual 131, 3) := by decide +kernel
theorem dX10_record_73 : decode cX10_record 73 = .ok (.iconst 0, 1) := by decide +kernel
theorem dX10_record_74 : decode cX10_record 74 = .ok (.istore 4, 2) := by decide +kernel
theorem dX10_record_76 : decode cX10_record 76 = .ok (.iload 4, 2) := by decide +kernel
theorem dX10_record_78 : decode cX10_record 78 = .ok (.iload_n 3, 1) := by decide +kernel
theorem dX10_record_79 : decode cX10_record 79 = .ok (.if_icmp .ge 34, 3) := by decide +kernel
theorem dX10_record_82 : decode cX10_record 82 = .ok (.aload_n 0, 1) := by decide +kernel
theorem dX10_record_83 : decode cX10_record 83 = .ok (.aload_n 0, 1) := by decide +kernel
theorem dX10_record_84 : decode cX10_record 84 = .ok (.iload_n 1, 1) := by decide +kernel
theorem dX10_record_85 : decode cX10_record 85 = .ok (.iload 4, 2) := by decide +kernel
theorem dX10_record_87 : decode cX10_record 87 = .ok (.invokevirtual 135, 3) := by decide +kernel
theorem dX10_record_90 : decode cX10_record 90 = .ok (.iload_n 2, 1) := by decide +kernel
theorem dX10_record_91 : decode cX10_record 91 = .ok (.bipush 7, 2) := by decide +kernel
theorem dX10_record_93 : decode cX10_record 93 = .ok (.if_icmp .le 8, 3) := by decide +kernel
theorem dX10_record_96 : decode cX10_record 96 = .ok (.bipush 9, 2) := by decide +kernel
theorem dX10_record_98 : decode cX10_record 98 = .ok (.goto 4, 3) := by decide +kernel
theorem dX10_record_101 : decode cX10_record 101 = .ok (.iload_n 2, 1) := by decide +kernel
theorem dX10_record_102 : decode cX10_record 102 = .ok (.lconst 0, 1) := by decide +kernel
theorem dX10_record_103 : decode cX10_record 103 = .ok (.dconst 0, 1) := by decide +kernel
theorem dX10_record_104 : decode cX10_record 104 = .ok (.invokevirtual 84, 3) := by decide +kernel
theorem dX10_record_107 : decode cX10_record 107 = .ok (.iinc 4 1, 3) := by decide +kernel
theorem dX10_record_110 : decode cX10_record 110 = .ok (.goto (-34), 3) := by decide +kernel
theorem dX10_record_113 : decode cX10_record 113 = .ok (.iconst 1, 1) := by decide +kernel
theorem dX10_record_114 : decode cX10_record 114 = .ok (.ireturn, 1) := by decide +kernel
theorem dX10_share_0 : decode cX10_share 0 = .ok (.iload_n 1, 1) := by decide +kernel
theorem dX10_share_1 : decode cX10_share 1 = .ok (.invokestatic 141, 3) := by decide +kernel
theorem dX10_share_4 : decode cX10_share 4 = .ok (.ifCond .eq 10, 3) := by decide +kernel
theorem dX10_share_7 : decode cX10_share 7 = .ok (.iload_n 2, 1) := by decide +kernel
theorem dX10_share_8 : decode cX10_share 8 = .ok (.invokestatic 141, 3) := by decide +kernel
theorem dX10_share_11 : decode cX10_share 11 = .ok (.ifCond .ne 5, 3) := by decide +kernel
theorem dX10_share_14 : decode cX10_share 14 = .ok (.iconst (-1), 1) := by decide +kernel
theorem dX10_share_15 : decode cX10_share 15 = .ok (.ireturn, 1) := by decide +kernel
theorem dX10_share_16 : decode cX10_share 16 = .ok (.aload_n 0, 1) := by decide +kernel
theorem dX10_share_17 : decode cX10_share 17 = .ok (.getfield 27, 3) := by decide +kernel
theorem dX10_share_20 : decode cX10_share 20 = .ok (.iload_n 1, 1) := by decide +kernel
theorem dX10_share_21 : decode cX10_share 21 = .ok (.aload_n 0, 1) := by decide +kernel
theorem dX10_share_22 : decode cX10_share 22 = .ok (.getfield 27, 3) := by decide +kernel
theorem dX10_share_25 : decode cX10_share 25 = .ok (.iload_n 2, 1) := by decide +kernel
theorem dX10_share_26 : decode cX10_share 26 = .ok (.iaload, 1) := by decide +kernel
theorem dX10_share_27 : decode cX10_share 27 = .ok (.iastore, 1) := by decide +kernel
theorem dX10_share_28 : decode cX10_share 28 = .ok (.iconst 1, 1) := by decide +kernel
theorem dX10_share_29 : decode cX10_share 29 = .ok (.ireturn, 1) := by decide +kernel
theorem dX10_firstOf_0 : decode cX10_firstOf 0 = .ok (.iconst 0, 1) := by decide +kernel
theorem dX10_firstOf_1 : decode cX10_firstOf 1 = .ok (.istore_n 2, 1) := by decide +kernel
theorem dX10_firstOf_2 : decode cX10_firstOf 2 = .ok (.aload_n 0, 1) := by decide +kernel
theorem dX10_firstOf_3 : decode cX10_firstOf 3 = .ok (.getfield 27, 3) := by decide +kernel
theorem dX10_firstOf_6 : decode cX10_firstOf 6 = .ok (.iload_n 2, 1) := by decide +kernel
theorem dX10_firstOf_7 : decode cX10_firstOf 7 = .ok (.iaload, 1) := by decide +kernel
theorem dX10_firstOf_8 : decode cX10_firstOf 8 = .ok (.iload_n 1, 1) := by decide +kernel
theorem dX10_firstOf_9 : decode cX10_firstOf 9 = .ok (.if_icmp .eq 9, 3) := by decide +kernel
theorem dX10_firstOf_12 : decode cX10_firstOf 12 = .ok (.iinc 2 1, 3) := by decide +kernel
theorem dX10_firstOf_15 : decode cX10_firstOf 15 = .ok (.goto (-13), 3) := by decide +kernel
theorem dX10_firstOf_18 : decode cX10_firstOf 18 = .ok (.iload_n 2, 1) := by decide +kernel
theorem dX10_firstOf_19 : decode cX10_firstOf 19 = .ok (.ireturn, 1) := by decide +kernel
theorem dX10_kind_0 : decode cX10_kind 0 = .ok (.iload_n 1, 1) := by decide +kernel
theorem dX10_kind_1 : decode cX10_kind 1 = .ok (.invokestatic 141, 3) := by decide +kernel
theorem dX10_kind_4 : decode cX10_kind 4 = .ok (.ifCond .eq 13, 3) := by decide +kernel
theorem dX10_kind_7 : decode cX10_kind 7 = .ok (.iload_n 2, 1) := by decide +kernel
theorem dX10_kind_8 : decode cX10_kind 8 = .ok (.i2l, 1) := by decide +kernel
theorem dX10_kind_9 : decode cX10_kind 9 = .ok (.lconst 0, 1) := by decide +kernel
theorem dX10_kind_10 : decode cX10_kind 10 = .ok (.lconst 1, 1) := by decide +kernel
theorem dX10_kind_11 : decode cX10_kind 11 = .ok (.invokestatic 72, 3) := by decide +kernel
theorem dX10_kind_14 : decode cX10_kind 14 = .ok (.ifCond .ne 5, 3) := by decide +kernel
theorem dX10_kind_17 : decode cX10_kind 17 = .ok (.iconst (-1), 1) := by decide +kernel
theorem dX10_kind_18 : decode cX10_kind 18 = .ok (.ireturn, 1) := by decide +kernel
theorem dX10_kind_19 : decode cX10_kind 19 = .ok (.aload_n 0, 1) := by decide +kernel
theorem dX10_kind_20 : decode cX10_kind 20 = .ok (.getfield 27, 3) := by decide +kernel
theorem dX10_kind_23 : decode cX10_kind 23 = .ok (.iload_n 1, 1) := by decide +kernel
theorem dX10_kind_24 : decode cX10_kind 24 = .ok (.iaload, 1) := by decide +kernel
theorem dX10_kind_25 : decode cX10_kind 25 = .ok (.ifCond .ge 32, 3) := by decide +kernel
theorem dX10_kind_28 : decode cX10_kind 28 = .ok (.iload_n 2, 1) := by decide +kernel
theorem dX10_kind_29 : decode cX10_kind 29 = .ok (.iconst 1, 1) := by decide +kernel
theorem dX10_kind_30 : decode cX10_kind 30 = .ok (.if_icmp .ne 8, 3) := by decide +kernel
theorem dX10_kind_33 : decode cX10_kind 33 = .ok (.bipush (-4), 2) := by decide +kernel
theorem dX10_kind_35 : decode cX10_kind 35 = .ok (.goto 21, 3) := by decide +kernel
theorem dX10_kind_38 : decode cX10_kind 38 = .ok (.aload_n 0, 1) := by decide +kernel
theorem dX10_kind_39 : decode cX10_kind 39 = .ok (.getfield 27, 3) := by decide +kernel
theorem dX10_kind_42 : decode cX10_kind 42 = .ok (.iload_n 1, 1) := by decide +kernel
theorem dX10_kind_43 : decode cX10_kind 43 = .ok (.iaload, 1) := by decide +kernel
theorem dX10_kind_44 : decode cX10_kind 44 = .ok (.bipush (-2), 2) := by decide +kernel
theorem dX10_kind_46 : decode cX10_kind 46 = .ok (.if_icmp .ne 8, 3) := by decide +kernel
theorem dX10_kind_49 : decode cX10_kind 49 = .ok (.bipush 11, 2) := by decide +kernel
theorem dX10_kind_51 : decode cX10_kind 51 = .ok (.goto 5, 3) := by decide +kernel
theorem dX10_kind_54 : decode cX10_kind 54 = .ok (.bipush 12, 2) := by decide +kernel
theorem dX10_kind_56 : decode cX10_kind 56 = .ok (.ireturn, 1) := by decide +kernel
theorem dX10_kind_57 : decode cX10_kind 57 = .ok (.iload_n 2, 1) := by decide +kernel
theorem dX10_kind_58 : decode cX10_kind 58 = .ok (.ifCond .ne 11, 3) := by decide +kernel
theorem dX10_kind_61 : decode cX10_kind 61 = .ok (.aload_n 0, 1) := by decide +kernel
theorem dX10_kind_62 : decode cX10_kind 62 = .ok (.iload_n 1, 1) := by decide +kernel
theorem dX10_kind_63 : decode cX10_kind 63 = .ok (.invokevirtual 146, 3) := by decide +kernel
theorem dX10_kind_66 : decode cX10_kind 66 = .ok (.goto 13, 3) := by decide +kernel
theorem dX10_kind_69 : decode cX10_kind 69 = .ok (.aload_n 0, 1) := by decide +kernel
theorem dX10_kind_70 : decode cX10_kind 70 = .ok (.aload_n 0, 1) := by decide +kernel
theorem dX10_kind_71 : decode cX10_kind 71 = .ok (.getfield 27, 3) := by decide +kernel
theorem dX10_kind_74 : decode cX10_kind 74 = .ok (.iload_n 1, 1) := by decide +kernel
theorem dX10_kind_75 : decode cX10_kind 75 = .ok (.iaload, 1) := by decide +kernel
theorem dX10_kind_76 : decode cX10_kind 76 = .ok (.invokevirtual 149, 3) := by decide +kernel
theorem dX10_kind_79 : decode cX10_kind 79 = .ok (.ireturn, 1) := by decide +kernel
theorem dX10_size_0 : decode cX10_size 0 = .ok (.iload_n 1, 1) := by decide +kernel
theorem dX10_size_1 : decode cX10_size 1 = .ok (.invokestatic 141, 3) := by decide +kernel
theorem dX10_size_4 : decode cX10_size 4 = .ok (.ifCond .ne 5, 3) := by decide +kernel
theorem dX10_size_7 : decode cX10_size 7 = .ok (.iconst (-1), 1) := by decide +kernel
theorem dX10_size_8 : decode cX10_size 8 = .ok (.ireturn, 1) := by decide +kernel
theorem dX10_size_9 : decode cX10_size 9 = .ok (.aload_n 0, 1) := by decide +kernel
theorem dX10_size_10 : decode cX10_size 10 = .ok (.iload_n 1, 1) := by decide +kernel
theorem dX10_size_11 : decode cX10_size 11 = .ok (.invokevirtual 124, 3) := by decide +kernel
theorem dX10_size_14 : decode cX10_size 14 = .ok (.ifCond .le 14, 3) := by decide +kernel
theorem dX10_size_17 : decode cX10_size 17 = .ok (.bipush (-10), 2) := by decide +kernel
theorem dX10_size_19 : decode cX10_size 19 = .ok (.aload_n 0, 1) := by decide +kernel
theorem dX10_size_20 : decode cX10_size 20 = .ok (.iload_n 1, 1) := by decide +kernel
theorem dX10_size_21 : decode cX10_size 21 = .ok (.invokevirtual 124, 3) := by decide +kernel
theorem dX10_size_24 : decode cX10_size 24 = .ok (.isub, 1) := by decide +kernel
theorem dX10_size_25 : decode cX10_size 25 = .ok (.goto 8, 3) := by decide +kernel
theorem dX10_size_28 : decode cX10_size 28 = .ok (.aload_n 0, 1) := by decide +kernel
theorem dX10_size_29 : decode cX10_size 29 = .ok (.iload_n 1, 1) := by decide +kernel
theorem dX10_size_30 : decode cX10_size 30 = .ok (.invokevirtual 152, 3) := by decide +kernel
theorem dX10_size_33 : decode cX10_size 33 = .ok (.ireturn, 1) := by decide +kernel
theorem dX10_askFault_0 : decode cX10_askFault 0 = .ok (.aload_n 0, 1) := by decide +kernel
theorem dX10_askFault_1 : decode cX10_askFault 1 = .ok (.iload_n 1, 1) := by decide +kernel
theorem dX10_askFault_2 : decode cX10_askFault 2 = .ok (.lload_n 2, 1) := by decide +kernel
theorem dX10_askFault_3 : decode cX10_askFault 3 = .ok (.invokevirtual 155, 3) := by decide +kernel
theorem dX10_askFault_6 : decode cX10_askFault 6 = .ok (.istore 5, 2) := by decide +kernel
theorem dX10_askFault_8 : decode cX10_askFault 8 = .ok (.iload 5, 2) := by decide +kernel
theorem dX10_askFault_10 : decode cX10_askFault 10 = .ok (.ifCond .le 6, 3) := by decide +kernel
theorem dX10_askFault_13 : decode cX10_askFault 13 = .ok (.iload 5, 2) := by decide +kernel
theorem dX10_askFault_15 : decode cX10_askFault 15 = .ok (.ireturn, 1) := by decide +kernel
theorem dX10_askFault_16 : decode cX10_askFault 16 = .ok (.aload_n 0, 1) := by decide +kernel
theorem dX10_askFault_17 : decode cX10_askFault 17 = .ok (.iload_n 1, 1) := by decide +kernel
theorem dX10_askFault_18 : decode cX10_askFault 18 = .ok (.invokevirtual 146, 3) := by decide +kernel
theorem dX10_askFault_21 : decode cX10_askFault 21 = .ok (.bipush 7, 2) := by decide +kernel
theorem dX10_askFault_23 : decode cX10_askFault 23 = .ok (.if_icmp .le 7, 3) := by decide +kernel
theorem dX10_askFault_26 : decode cX10_askFault 26 = .ok (.iconst 4, 1) := by decide +kernel
theorem dX10_askFault_27 : decode cX10_askFault 27 = .ok (.goto 21, 3) := by decide +kernel
theorem dX10_askFault_30 : decode cX10_askFault 30 = .ok (.aload_n 0, 1) := by decide +kernel
theorem dX10_askFault_31 : decode cX10_askFault 31 = .ok (.iload_n 1, 1) := by decide +kernel
theorem dX10_askFault_32 : decode cX10_askFault 32 = .ok (.invokevirtual 146, 3) := by decide +kernel
theorem dX10_askFault_35 : decode cX10_askFault 35 = .ok (.iload 4, 2) := by decide +kernel
theorem dX10_askFault_37 : decode cX10_askFault 37 = .ok (.invokestatic 80, 3) := by decide +kernel
theorem dX10_askFault_40 : decode cX10_askFault 40 = .ok (.ifCond .eq 7, 3) := by decide +kernel
theorem dX10_askFault_43 : decode cX10_askFault 43 = .ok (.iconst 0, 1) := by decide +kernel
theorem dX10_askFault_44 : decode cX10_askFault 44 = .ok (.goto 4, 3) := by decide +kernel
theorem dX10_askFault_47 : decode cX10_askFault 47 = .ok (.iconst 5, 1) := by decide +kernel
theorem dX10_askFault_48 : decode cX10_askFault 48 = .ok (.ireturn, 1) := by decide +kernel
theorem dX10_ask_0 : decode cX10_ask 0 = .ok (.iload_n 1, 1) := by decide +kernel
theorem dX10_ask_1 : decode cX10_ask 1 = .ok (.invokestatic 141, 3) := by decide +kernel
theorem dX10_ask_4 : decode cX10_ask 4 = .ok (.ifCond .eq 10, 3) := by decide +kernel
theorem dX10_ask_7 : decode cX10_ask 7 = .ok (.iload_n 3, 1) := by decide +kernel
theorem dX10_ask_8 : decode cX10_ask 8 = .ok (.invokestatic 159, 3) := by decide +kernel
theorem dX10_ask_11 : decode cX10_ask 11 = .ok (.ifCond .ne 5, 3) := by decide +kernel
theorem dX10_ask_14 : decode cX10_ask 14 = .ok (.iconst (-1), 1) := by decide +kernel
theorem dX10_ask_15 : decode cX10_ask 15 = .ok (.ireturn, 1) := by decide +kernel
theorem dX10_ask_16 : decode cX10_ask 16 = .ok (.aload_n 0, 1) := by decide +kernel
theorem dX10_ask_17 : decode cX10_ask 17 = .ok (.iload_n 1, 1) := by decide +kernel
theorem dX10_ask_18 : decode cX10_ask 18 = .ok (.iload_n 2, 1) := by decide +kernel
theorem dX10_ask_19 : decode cX10_ask 19 = .ok (.i2l, 1) := by decide +kernel
theorem dX10_ask_20 : decode cX10_ask 20 = .ok (.iload_n 3, 1) := by decide +kernel
theorem dX10_ask_21 : decode cX10_ask 21 = .ok (.invokevirtual 162, 3) := by decide +kernel
theorem dX10_ask_24 : decode cX10_ask 24 = .ok (.istore 4, 2) := by decide +kernel
theorem dX10_ask_26 : decode cX10_ask 26 = .ok (.iload 4, 2) := by decide +kernel
theorem dX10_ask_28 : decode cX10_ask 28 = .ok (.ifCond .le 9, 3) := by decide +kernel
theorem dX10_ask_31 : decode cX10_ask 31 = .ok (.bipush (-10), 2) := by decide +kernel
theorem dX10_ask_33 : decode cX10_ask 33 = .ok (.iload 4, 2) := by decide +kernel
theorem dX10_ask_35 : decode cX10_ask 35 = .ok (.isub, 1) := by decide +kernel
theorem dX10_ask_36 : decode cX10_ask 36 = .ok (.ireturn, 1) := by decide +kernel
theorem dX10_ask_37 : decode cX10_ask 37 = .ok (.aload_n 0, 1) := by decide +kernel
theorem dX10_ask_38 : decode cX10_ask 38 = .ok (.aload_n 0, 1) := by decide +kernel
theorem dX10_ask_39 : decode cX10_ask 39 = .ok (.aload_n 0, 1) := by decide +kernel
theorem dX10_ask_40 : decode cX10_ask 40 = .ok (.iload_n 1, 1) := by decide +kernel
theorem dX10_ask_41 : decode cX10_ask 41 = .ok (.iload_n 2, 1) := by decide +kernel
theorem dX10_ask_42 : decode cX10_ask 42 = .ok (.invokevirtual 135, 3) := by decide +kernel
theorem dX10_ask_45 : decode cX10_ask 45 = .ok (.iload_n 3, 1) := by decide +kernel
theorem dX10_ask_46 : decode cX10_ask 46 = .ok (.invokevirtual 166, 3) := by decide +kernel
theorem dX10_ask_49 : decode cX10_ask 49 = .ok (.putfield 170, 3) := by decide +kernel
theorem dX10_ask_52 : decode cX10_ask 52 = .ok (.iconst 1, 1) := by decide +kernel
theorem dX10_ask_53 : decode cX10_ask 53 = .ok (.ireturn, 1) := by decide +kernel
theorem dX10_box_0 : decode cX10_box 0 = .ok (.iload_n 1, 1) := by decide +kernel
theorem dX10_box_1 : decode cX10_box 1 = .ok (.invokestatic 141, 3) := by decide +kernel
theorem dX10_box_4 : decode cX10_box 4 = .ok (.ifCond .ne 5, 3) := by decide +kernel
theorem dX10_box_7 : decode cX10_box 7 = .ok (.iconst (-1), 1) := by decide +kernel
theorem dX10_box_8 : decode cX10_box 8 = .ok (.ireturn, 1) := by decide +kernel
theorem dX10_box_9 : decode cX10_box 9 = .ok (.aload_n 0, 1) := by decide +kernel
theorem dX10_box_10 : decode cX10_box 10 = .ok (.iload_n 1, 1) := by decide +kernel
theorem dX10_box_11 : decode cX10_box 11 = .ok (.iload_n 2, 1) := by decide +kernel
theorem dX10_box_12 : decode cX10_box 12 = .ok (.i2l, 1) := by decide +kernel
theorem dX10_box_13 : decode cX10_box 13 = .ok (.invokevirtual 155, 3) := by decide +kernel
theorem dX10_box_16 : decode cX10_box 16 = .ok (.istore_n 3, 1) := by decide +kernel
theorem dX10_box_17 : decode cX10_box 17 = .ok (.iload_n 3, 1) := by decide +kernel
theorem dX10_box_18 : decode cX10_box 18 = .ok (.ifCond .le 8, 3) := by decide +kernel
theorem dX10_box_21 : decode cX10_box 21 = .ok (.bipush (-10), 2) := by decide +kernel
theorem dX10_box_23 : decode cX10_box 23 = .ok (.iload_n 3, 1) := by decide +kernel
theorem dX10_box_24 : decode cX10_box 24 = .ok (.isub, 1) := by decide +kernel
theorem dX10_box_25 : decode cX10_box 25 = .ok (.ireturn, 1) := by decide +kernel
theorem dX10_box_26 : decode cX10_box 26 = .ok (.aload_n 0, 1) := by decide +kernel
theorem dX10_box_27 : decode cX10_box 27 = .ok (.iload_n 1, 1) := by decide +kernel
theorem dX10_box_28 : decode cX10_box 28 = .ok (.iload_n 2, 1) := by decide +kernel
theorem dX10_box_29 : decode cX10_box 29 = .ok (.invokevirtual 135, 3) := by decide +kernel
theorem dX10_box_32 : decode cX10_box 32 = .ok (.istore 4, 2) := by decide +kernel
theorem dX10_box_34 : decode cX10_box 34 = .ok (.aload_n 0, 1) := by decide +kernel
theorem dX10_box_35 : decode cX10_box 35 = .ok (.aload_n 0, 1) := by decide +kernel
theorem dX10_box_36 : decode cX10_box 36 = .ok (.iload 4, 2) := by decide +kernel
theorem dX10_box_38 : decode cX10_box 38 = .ok (.aload_n 0, 1) := by decide +kernel
theorem dX10_box_39 : decode cX10_box 39 = .ok (.getfield 7, 3) := by decide +kernel
theorem dX10_box_42 : decode cX10_box 42 = .ok (.iload 4, 2) := by decide +kernel
theorem dX10_box_44 : decode cX10_box 44 = .ok (.iaload, 1) := by decide +kernel
theorem dX10_box_45 : decode cX10_box 45 = .ok (.invokevirtual 166, 3) := by decide +kernel
theorem dX10_box_48 : decode cX10_box 48 = .ok (.putfield 170, 3) := by decide +kernel
theorem dX10_box_51 : decode cX10_box 51 = .ok (.aload_n 0, 1) := by decide +kernel
theorem dX10_box_52 : decode cX10_box 52 = .ok (.getfield 7, 3) := by decide +kernel
theorem dX10_box_55 : decode cX10_box 55 = .ok (.iload 4, 2) := by decide +kernel
theorem dX10_box_57 : decode cX10_box 57 = .ok (.iaload, 1) := by decide +kernel
theorem dX10_box_58 : decode cX10_box 58 = .ok (.ireturn, 1) := by decide +kernel
theorem dX10_got_0 : decode cX10_got 0 = .ok (.aload_n 0, 1) := by decide +kernel
theorem dX10_got_1 : decode cX10_got 1 = .ok (.getfield 170, 3) := by decide +kernel
theorem dX10_got_4 : decode cX10_got 4 = .ok (.lreturn, 1) := by decide +kernel
theorem dX10_putFault_0 : decode cX10_putFault 0 = .ok (.aload_n 0, 1) := by decide +kernel
theorem dX10_putFault_1 : decode cX10_putFault 1 = .ok (.iload_n 1, 1) := by decide +kernel
theorem dX10_putFault_2 : decode cX10_putFault 2 = .ok (.lload_n 2, 1) := by decide +kernel
theorem dX10_putFault_3 : decode cX10_putFault 3 = .ok (.invokevirtual 155, 3) := by decide +kernel
theorem dX10_putFault_6 : decode cX10_putFault 6 = .ok (.istore 5, 2) := by decide +kernel
theorem dX10_putFault_8 : decode cX10_putFault 8 = .ok (.iload 5, 2) := by decide +kernel
theorem dX10_putFault_10 : decode cX10_putFault 10 = .ok (.ifCond .le 6, 3) := by decide +kernel
theorem dX10_putFault_13 : decode cX10_putFault 13 = .ok (.iload 5, 2) := by decide +kernel
theorem dX10_putFault_15 : decode cX10_putFault 15 = .ok (.ireturn, 1) := by decide +kernel
theorem dX10_putFault_16 : decode cX10_putFault 16 = .ok (.aload_n 0, 1) := by decide +kernel
theorem dX10_putFault_17 : decode cX10_putFault 17 = .ok (.iload_n 1, 1) := by decide +kernel
theorem dX10_putFault_18 : decode cX10_putFault 18 = .ok (.invokevirtual 146, 3) := by decide +kernel
theorem dX10_putFault_21 : decode cX10_putFault 21 = .ok (.bipush 7, 2) := by decide +kernel
theorem dX10_putFault_23 : decode cX10_putFault 23 = .ok (.if_icmp .le 7, 3) := by decide +kernel
theorem dX10_putFault_26 : decode cX10_putFault 26 = .ok (.iconst 4, 1) := by decide +kernel
theorem dX10_putFault_27 : decode cX10_putFault 27 = .ok (.goto 21, 3) := by decide +kernel
theorem dX10_putFault_30 : decode cX10_putFault 30 = .ok (.iload 4, 2) := by decide +kernel
theorem dX10_putFault_32 : decode cX10_putFault 32 = .ok (.aload_n 0, 1) := by decide +kernel
theorem dX10_putFault_33 : decode cX10_putFault 33 = .ok (.iload_n 1, 1) := by decide +kernel
theorem dX10_putFault_34 : decode cX10_putFault 34 = .ok (.invokevirtual 146, 3) := by decide +kernel
theorem dX10_putFault_37 : decode cX10_putFault 37 = .ok (.invokestatic 80, 3) := by decide +kernel
theorem dX10_putFault_40 : decode cX10_putFault 40 = .ok (.ifCond .eq 7, 3) := by decide +kernel
theorem dX10_putFault_43 : decode cX10_putFault 43 = .ok (.iconst 0, 1) := by decide +kernel
theorem dX10_putFault_44 : decode cX10_putFault 44 = .ok (.goto 4, 3) := by decide +kernel
theorem dX10_putFault_47 : decode cX10_putFault 47 = .ok (.iconst 5, 1) := by decide +kernel
theorem dX10_putFault_48 : decode cX10_putFault 48 = .ok (.ireturn, 1) := by decide +kernel
theorem dX10_layFault_0 : decode cX10_layFault 0 = .ok (.aload_n 0, 1) := by decide +kernel
theorem dX10_layFault_1 : decode cX10_layFault 1 = .ok (.iload_n 1, 1) := by decide +kernel
theorem dX10_layFault_2 : decode cX10_layFault 2 = .ok (.lload_n 2, 1) := by decide +kernel
theorem dX10_layFault_3 : decode cX10_layFault 3 = .ok (.invokevirtual 155, 3) := by decide +kernel
theorem dX10_layFault_6 : decode cX10_layFault 6 = .ok (.istore 5, 2) := by decide +kernel
theorem dX10_layFault_8 : decode cX10_layFault 8 = .ok (.iload 5, 2) := by decide +kernel
theorem dX10_layFault_10 : decode cX10_layFault 10 = .ok (.ifCond .le 8, 3) := by decide +kernel
theorem dX10_layFault_13 : decode cX10_layFault 13 = .ok (.iload 5, 2) := by decide +kernel
theorem dX10_layFault_15 : decode cX10_layFault 15 = .ok (.goto 21, 3) := by decide +kernel
theorem dX10_layFault_18 : decode cX10_layFault 18 = .ok (.iload 4, 2) := by decide +kernel
theorem dX10_layFault_20 : decode cX10_layFault 20 = .ok (.aload_n 0, 1) := by decide +kernel
theorem dX10_layFault_21 : decode cX10_layFault 21 = .ok (.iload_n 1, 1) := by decide +kernel
theorem dX10_layFault_22 : decode cX10_layFault 22 = .ok (.invokevirtual 146, 3) := by decide +kernel
theorem dX10_layFault_25 : decode cX10_layFault 25 = .ok (.invokestatic 80, 3) := by decide +kernel
theorem dX10_layFault_28 : decode cX10_layFault 28 = .ok (.ifCond .eq 7, 3) := by decide +kernel
theorem dX10_layFault_31 : decode cX10_layFault 31 = .ok (.iconst 0, 1) := by decide +kernel
theorem dX10_layFault_32 : decode cX10_layFault 32 = .ok (.goto 4, 3) := by decide +kernel
theorem dX10_layFault_35 : decode cX10_layFault 35 = .ok (.iconst 5, 1) := by decide +kernel
theorem dX10_layFault_36 : decode cX10_layFault 36 = .ok (.ireturn, 1) := by decide +kernel
theorem dX10_laysValue_0 : decode cX10_laysValue 0 = .ok (.aload_n 0, 1) := by decide +kernel
theorem dX10_laysValue_1 : decode cX10_laysValue 1 = .ok (.sipush 520, 3) := by decide +kernel
theorem dX10_laysValue_4 : decode cX10_laysValue 4 = .ok (.iload_n 3, 1) := by decide +kernel
theorem dX10_laysValue_5 : decode cX10_laysValue 5 = .ok (.iload 4, 2) := by decide +kernel
theorem dX10_laysValue_7 : decode cX10_laysValue 7 = .ok (.invokevirtual 174, 3) := by decide +kernel
theorem dX10_laysValue_10 : decode cX10_laysValue 10 = .ok (.aload_n 0, 1) := by decide +kernel
theorem dX10_laysValue_11 : decode cX10_laysValue 11 = .ok (.sipush 520, 3) := by decide +kernel
theorem dX10_laysValue_14 : decode cX10_laysValue 14 = .ok (.aload_n 0, 1) := by decide +kernel
theorem dX10_laysValue_15 : decode cX10_laysValue 15 = .ok (.iload_n 1, 1) := by decide +kernel
theorem dX10_laysValue_16 : decode cX10_laysValue 16 = .ok (.invokevirtual 146, 3) := by decide +kernel
theorem dX10_laysValue_19 : decode cX10_laysValue 19 = .ok (.aload_n 0, 1) := by decide +kernel
theorem dX10_laysValue_20 : decode cX10_laysValue 20 = .ok (.iload_n 1, 1) := by decide +kernel
theorem dX10_laysValue_21 : decode cX10_laysValue 21 = .ok (.iload_n 2, 1) := by decide +kernel
theorem dX10_laysValue_22 : decode cX10_laysValue 22 = .ok (.invokevirtual 135, 3) := by decide +kernel
theorem dX10_laysValue_25 : decode cX10_laysValue 25 = .ok (.invokevirtual 138, 3) := by decide +kernel
theorem dX10_laysValue_28 : decode cX10_laysValue 28 = .ok (.return_, 1) := by decide +kernel
theorem dX10_put_0 : decode cX10_put 0 = .ok (.iload_n 1, 1) := by decide +kernel
theorem dX10_put_1 : decode cX10_put 1 = .ok (.invokestatic 141, 3) := by decide +kernel
theorem dX10_put_4 : decode cX10_put 4 = .ok (.ifCond .eq 10, 3) := by decide +kernel
theorem dX10_put_7 : decode cX10_put 7 = .ok (.iload_n 3, 1) := by decide +kernel
theorem dX10_put_8 : decode cX10_put 8 = .ok (.invokestatic 159, 3) := by decide +kernel
theorem dX10_put_11 : decode cX10_put 11 = .ok (.ifCond .ne 5, 3) := by decide +kernel
theorem dX10_put_14 : decode cX10_put 14 = .ok (.iconst (-1), 1) := by decide +kernel
theorem dX10_put_15 : decode cX10_put 15 = .ok (.ireturn, 1) := by decide +kernel
theorem dX10_put_16 : decode cX10_put 16 = .ok (.aload_n 0, 1) := by decide +kernel
theorem dX10_put_17 : decode cX10_put 17 = .ok (.iload_n 1, 1) := by decide +kernel
theorem dX10_put_18 : decode cX10_put 18 = .ok (.iload_n 2, 1) := by decide +kernel
theorem dX10_put_19 : decode cX10_put 19 = .ok (.i2l, 1) := by decide +kernel
theorem dX10_put_20 : decode cX10_put 20 = .ok (.iload_n 3, 1) := by decide +kernel
theorem dX10_put_21 : decode cX10_put 21 = .ok (.invokevirtual 177, 3) := by decide +kernel
theorem dX10_put_24 : decode cX10_put 24 = .ok (.istore 5, 2) := by decide +kernel
theorem dX10_put_26 : decode cX10_put 26 = .ok (.iload 5, 2) := by decide +kernel
theorem dX10_put_28 : decode cX10_put 28 = .ok (.ifCond .le 9, 3) := by decide +kernel
theorem dX10_put_31 : decode cX10_put 31 = .ok (.bipush (-10), 2) := by decide +kernel
theorem dX10_put_33 : decode cX10_put 33 = .ok (.iload 5, 2) := by decide +kernel
theorem dX10_put_35 : decode cX10_put 35 = .ok (.isub, 1) := by decide +kernel
theorem dX10_put_36 : decode cX10_put 36 = .ok (.ireturn, 1) := by decide +kernel
theorem dX10_put_37 : decode cX10_put 37 = .ok (.aload_n 0, 1) := by decide +kernel
theorem dX10_put_38 : decode cX10_put 38 = .ok (.iload_n 1, 1) := by decide +kernel
theorem dX10_put_39 : decode cX10_put 39 = .ok (.iload_n 2, 1) := by decide +kernel
theorem dX10_put_40 : decode cX10_put 40 = .ok (.iload_n 3, 1) := by decide +kernel
theorem dX10_put_41 : decode cX10_put 41 = .ok (.iload 4, 2) := by decide +kernel
theorem dX10_put_43 : decode cX10_put 43 = .ok (.invokevirtual 180, 3) := by decide +kernel
theorem dX10_put_46 : decode cX10_put 46 = .ok (.iconst 1, 1) := by decide +kernel
theorem dX10_put_47 : decode cX10_put 47 = .ok (.ireturn, 1) := by decide +kernel
theorem dX10_lay_0 : decode cX10_lay 0 = .ok (.iload_n 1, 1) := by decide +kernel
theorem dX10_lay_1 : decode cX10_lay 1 = .ok (.invokestatic 141, 3) := by decide +kernel
theorem dX10_lay_4 : decode cX10_lay 4 = .ok (.ifCond .eq 10, 3) := by decide +kernel
theorem dX10_lay_7 : decode cX10_lay 7 = .ok (.iload_n 3, 1) := by decide +kernel
theorem dX10_lay_8 : decode cX10_lay 8 = .ok (.invokestatic 184, 3) := by decide +kernel
theorem dX10_lay_11 : decode cX10_lay 11 = .ok (.ifCond .ne 5, 3) := by decide +kernel
theorem dX10_lay_14 : decode cX10_lay 14 = .ok (.iconst (-1), 1) := by decide +kernel
theorem dX10_lay_15 : decode cX10_lay 15 = .ok (.ireturn, 1) := by decide +kernel
theorem dX10_lay_16 : decode cX10_lay 16 = .ok (.aload_n 0, 1) := by decide +kernel
theorem dX10_lay_17 : decode cX10_lay 17 = .ok (.iload_n 1, 1) := by decide +kernel
theorem dX10_lay_18 : decode cX10_lay 18 = .ok (.iload_n 2, 1) := by decide +kernel
theorem dX10_lay_19 : decode cX10_lay 19 = .ok (.i2l, 1) := by decide +kernel
theorem dX10_lay_20 : decode cX10_lay 20 = .ok (.iload_n 3, 1) := by decide +kernel
theorem dX10_lay_21 : decode cX10_lay 21 = .ok (.invokevirtual 187, 3) := by decide +kernel
theorem dX10_lay_24 : decode cX10_lay 24 = .ok (.istore 5, 2) := by decide +kernel
theorem dX10_lay_26 : decode cX10_lay 26 = .ok (.iload 5, 2) := by decide +kernel
theorem dX10_lay_28 : decode cX10_lay 28 = .ok (.ifCond .le 9, 3) := by decide +kernel
theorem dX10_lay_31 : decode cX10_lay 31 = .ok (.bipush (-10), 2) := by decide +kernel
theorem dX10_lay_33 : decode cX10_lay 33 = .ok (.iload 5, 2) := by decide +kernel
theorem dX10_lay_35 : decode cX10_lay 35 = .ok (.isub, 1) := by decide +kernel
theorem dX10_lay_36 : decode cX10_lay 36 = .ok (.ireturn, 1) := by decide +kernel
theorem dX10_lay_37 : decode cX10_lay 37 = .ok (.aload_n 0, 1) := by decide +kernel
theorem dX10_lay_38 : decode cX10_lay 38 = .ok (.iload_n 1, 1) := by decide +kernel
theorem dX10_lay_39 : decode cX10_lay 39 = .ok (.iload_n 2, 1) := by decide +kernel
theorem dX10_lay_40 : decode cX10_lay 40 = .ok (.iload_n 3, 1) := by decide +kernel
theorem dX10_lay_41 : decode cX10_lay 41 = .ok (.iload 4, 2) := by decide +kernel
theorem dX10_lay_43 : decode cX10_lay 43 = .ok (.invokevirtual 180, 3) := by decide +kernel
theorem dX10_lay_46 : decode cX10_lay 46 = .ok (.iconst 1, 1) := by decide +kernel
theorem dX10_lay_47 : decode cX10_lay 47 = .ok (.ireturn, 1) := by decide +kernel
theorem dX10_fill_0 : decode cX10_fill 0 = .ok (.iload_n 1, 1) := by decide +kernel
theorem dX10_fill_1 : decode cX10_fill 1 = .ok (.invokestatic 141, 3) := by decide +kernel
theorem dX10_fill_4 : decode cX10_fill 4 = .ok (.ifCond .eq 23, 3) := by decide +kernel
theorem dX10_fill_7 : decode cX10_fill 7 = .ok (.iload_n 3, 1) := by decide +kernel
theorem dX10_fill_8 : decode cX10_fill 8 = .ok (.i2l, 1) := by decide +kernel
theorem dX10_fill_9 : decode cX10_fill 9 = .ok (.lconst 0, 1) := by decide +kernel
theorem dX10_fill_10 : decode cX10_fill 10 = .ok (.ldc2_w 190, 3) := by decide +kernel
theorem dX10_fill_13 : decode cX10_fill 13 = .ok (.invokestatic 72, 3) := by decide +kernel
theorem dX10_fill_16 : decode cX10_fill 16 = .ok (.ifCond .eq 11, 3) := by decide +kernel
theorem dX10_fill_19 : decode cX10_fill 19 = .ok (.iload 4, 2) := by decide +kernel
theorem dX10_fill_21 : decode cX10_fill 21 = .ok (.invokestatic 159, 3) := by decide +kernel
theorem dX10_fill_24 : decode cX10_fill 24 = .ok (.ifCond .ne 5, 3) := by decide +kernel
theorem dX10_fill_27 : decode cX10_fill 27 = .ok (.iconst (-1), 1) := by decide +kernel
theorem dX10_fill_28 : decode cX10_fill 28 = .ok (.ireturn, 1) := by decide +kernel
theorem dX10_fill_29 : decode cX10_fill 29 = .ok (.iconst 0, 1) := by decide +kernel
theorem dX10_fill_30 : decode cX10_fill 30 = .ok (.istore 6, 2) := by decide +kernel
theorem dX10_fill_32 : decode cX10_fill 32 = .ok (.aload_n 0, 1) := by decide +kernel
theorem dX10_fill_33 : decode cX10_fill 33 = .ok (.iconst 0, 1) := by decide +kernel
theorem dX10_fill_34 : decode cX10_fill 34 = .ok (.putfield 192, 3) := by decide +kernel
theorem dX10_fill_37 : decode cX10_fill 37 = .ok (.iload 6, 2) := by decide +kernel
theorem dX10_fill_39 : decode cX10_fill 39 = .ok (.iload_n 3, 1) := by decide +kernel
theorem dX10_fill_40 : decode cX10_fill 40 = .ok (.if_icmp .ge 53, 3) := by decide +kernel
theorem dX10_fill_43 : decode cX10_fill 43 = .ok (.aload_n 0, 1) := by decide +kernel
theorem dX10_fill_44 : decode cX10_fill 44 = .ok (.getfield 192, 3) := by decide +kernel
theorem dX10_fill_47 : decode cX10_fill 47 = .ok (.ifCond .ne 46, 3) := by decide +kernel
theorem dX10_fill_50 : decode cX10_fill 50 = .ok (.aload_n 0, 1) := by decide +kernel
theorem dX10_fill_51 : decode cX10_fill 51 = .ok (.aload_n 0, 1) := by decide +kernel
theorem dX10_fill_52 : decode cX10_fill 52 = .ok (.iload_n 1, 1) := by decide +kernel
theorem dX10_fill_53 : decode cX10_fill 53 = .ok (.iload_n 2, 1) := by decide +kernel
theorem dX10_fill_54 : decode cX10_fill 54 = .ok (.i2l, 1) := by decide +kernel
theorem dX10_fill_55 : decode cX10_fill 55 = .ok (.iload 6, 2) := by decide +kernel
theorem dX10_fill_57 : decode cX10_fill 57 = .ok (.i2l, 1) := by decide +kernel
theorem dX10_fill_58 : decode cX10_fill 58 = .ok (.ladd, 1) := by decide +kernel
theorem dX10_fill_59 : decode cX10_fill 59 = .ok (.iload 4, 2) := by decide +kernel
theorem dX10_fill_61 : decode cX10_fill 61 = .ok (.invokevirtual 177, 3) := by decide +kernel
theorem dX10_fill_64 : decode cX10_fill 64 = .ok (.putfield 192, 3) := by decide +kernel
theorem dX10_fill_67 : decode cX10_fill 67 = .ok (.aload_n 0, 1) := by decide +kernel
theorem dX10_fill_68 : decode cX10_fill 68 = .ok (.getfield 192, 3) := by decide +kernel
theorem dX10_fill_71 : decode cX10_fill 71 = .ok (.ifCond .ne (-34), 3) := by decide +kernel
theorem dX10_fill_74 : decode cX10_fill 74 = .ok (.aload_n 0, 1) := by decide +kernel
theorem dX10_fill_75 : decode cX10_fill 75 = .ok (.iload_n 1, 1) := by decide +kernel
theorem dX10_fill_76 : decode cX10_fill 76 = .ok (.iload_n 2, 1) := by decide +kernel
theorem dX10_fill_77 : decode cX10_fill 77 = .ok (.iload 6, 2) := by decide +kernel
theorem dX10_fill_79 : decode cX10_fill 79 = .ok (.iadd, 1) := by decide +kernel
theorem dX10_fill_80 : decode cX10_fill 80 = .ok (.iload 4, 2) := by decide +kernel
theorem dX10_fill_82 : decode cX10_fill 82 = .ok (.iload 5, 2) := by decide +kernel
theorem dX10_fill_84 : decode cX10_fill 84 = .ok (.invokevirtual 180, 3) := by decide +kernel
theorem dX10_fill_87 : decode cX10_fill 87 = .ok (.iinc 6 1, 3) := by decide +kernel
theorem dX10_fill_90 : decode cX10_fill 90 = .ok (.goto (-53), 3) := by decide +kernel
theorem dX10_fill_93 : decode cX10_fill 93 = .ok (.iload 6, 2) := by decide +kernel
theorem dX10_fill_95 : decode cX10_fill 95 = .ok (.ireturn, 1) := by decide +kernel
theorem dX10_moves_0 : decode cX10_moves 0 = .ok (.aload_n 0, 1) := by decide +kernel
theorem dX10_moves_1 : decode cX10_moves 1 = .ok (.iload 4, 2) := by decide +kernel
theorem dX10_moves_3 : decode cX10_moves 3 = .ok (.lload 5, 2) := by decide +kernel
theorem dX10_moves_5 : decode cX10_moves 5 = .ok (.invokevirtual 155, 3) := by decide +kernel
theorem dX10_moves_8 : decode cX10_moves 8 = .ok (.istore 7, 2) := by decide +kernel
theorem dX10_moves_10 : decode cX10_moves 10 = .ok (.iload 7, 2) := by decide +kernel
theorem dX10_moves_12 : decode cX10_moves 12 = .ok (.ifCond .le 6, 3) := by decide +kernel
theorem dX10_moves_15 : decode cX10_moves 15 = .ok (.iload 7, 2) := by decide +kernel
theorem dX10_moves_17 : decode cX10_moves 17 = .ok (.ireturn, 1) := by decide +kernel
theorem dX10_moves_18 : decode cX10_moves 18 = .ok (.aload_n 0, 1) := by decide +kernel
theorem dX10_moves_19 : decode cX10_moves 19 = .ok (.iload 4, 2) := by decide +kernel
theorem dX10_moves_21 : decode cX10_moves 21 = .ok (.lload 5, 2) := by decide +kernel
theorem dX10_moves_23 : decode cX10_moves 23 = .ok (.l2i, 1) := by decide +kernel
theorem dX10_moves_24 : decode cX10_moves 24 = .ok (.invokevirtual 135, 3) := by decide +kernel
theorem dX10_moves_27 : decode cX10_moves 27 = .ok (.istore 8, 2) := by decide +kernel
theorem dX10_moves_29 : decode cX10_moves 29 = .ok (.aload_n 0, 1) := by decide +kernel
theorem dX10_moves_30 : decode cX10_moves 30 = .ok (.iload_n 1, 1) := by decide +kernel
theorem dX10_moves_31 : decode cX10_moves 31 = .ok (.lload_n 2, 1) := by decide +kernel
theorem dX10_moves_32 : decode cX10_moves 32 = .ok (.aload_n 0, 1) := by decide +kernel
theorem dX10_moves_33 : decode cX10_moves 33 = .ok (.getfield 7, 3) := by decide +kernel
theorem dX10_moves_36 : decode cX10_moves 36 = .ok (.iload 8, 2) := by decide +kernel
theorem dX10_moves_38 : decode cX10_moves 38 = .ok (.iaload, 1) := by decide +kernel
theorem dX10_moves_39 : decode cX10_moves 39 = .ok (.invokevirtual 187, 3) := by decide +kernel
theorem dX10_moves_42 : decode cX10_moves 42 = .ok (.istore 7, 2) := by decide +kernel
theorem dX10_moves_44 : decode cX10_moves 44 = .ok (.iload 7, 2) := by decide +kernel
theorem dX10_moves_46 : decode cX10_moves 46 = .ok (.ifCond .ne 21, 3) := by decide +kernel
theorem dX10_moves_49 : decode cX10_moves 49 = .ok (.aload_n 0, 1) := by decide +kernel
theorem dX10_moves_50 : decode cX10_moves 50 = .ok (.iload 8, 2) := by decide +kernel
theorem dX10_moves_52 : decode cX10_moves 52 = .ok (.aload_n 0, 1) := by decide +kernel
theorem dX10_moves_53 : decode cX10_moves 53 = .ok (.iload_n 1, 1) := by decide +kernel
theorem dX10_moves_54 : decode cX10_moves 54 = .ok (.invokevirtual 146, 3) := by decide +kernel
theorem dX10_moves_57 : decode cX10_moves 57 = .ok (.aload_n 0, 1) := by decide +kernel
theorem dX10_moves_58 : decode cX10_moves 58 = .ok (.iload_n 1, 1) := by decide +kernel
theorem dX10_moves_59 : decode cX10_moves 59 = .ok (.lload_n 2, 1) := by decide +kernel
theorem dX10_moves_60 : decode cX10_moves 60 = .ok (.l2i, 1) := by decide +kernel
theorem dX10_moves_61 : decode cX10_moves 61 = .ok (.invokevirtual 135, 3) := by decide +kernel
theorem dX10_moves_64 : decode cX10_moves 64 = .ok (.invokevirtual 138, 3) := by decide +kernel
theorem dX10_moves_67 : decode cX10_moves 67 = .ok (.iload 7, 2) := by decide +kernel
theorem dX10_moves_69 : decode cX10_moves 69 = .ok (.ireturn, 1) := by decide +kernel
theorem dX10_move_0 : decode cX10_move 0 = .ok (.iload_n 1, 1) := by decide +kernel
theorem dX10_move_1 : decode cX10_move 1 = .ok (.invokestatic 141, 3) := by decide +kernel
theorem dX10_move_4 : decode cX10_move 4 = .ok (.ifCond .eq 23, 3) := by decide +kernel
theorem dX10_move_7 : decode cX10_move 7 = .ok (.iload_n 3, 1) := by decide +kernel
theorem dX10_move_8 : decode cX10_move 8 = .ok (.invokestatic 141, 3) := by decide +kernel
theorem dX10_move_11 : decode cX10_move 11 = .ok (.ifCond .eq 16, 3) := by decide +kernel
theorem dX10_move_14 : decode cX10_move 14 = .ok (.iload 5, 2) := by decide +kernel
theorem dX10_move_16 : decode cX10_move 16 = .ok (.i2l, 1) := by decide +kernel
theorem dX10_move_17 : decode cX10_move 17 = .ok (.lconst 0, 1) := by decide +kernel
theorem dX10_move_18 : decode cX10_move 18 = .ok (.ldc2_w 190, 3) := by decide +kernel
theorem dX10_move_21 : decode cX10_move 21 = .ok (.invokestatic 72, 3) := by decide +kernel
theorem dX10_move_24 : decode cX10_move 24 = .ok (.ifCond .ne 5, 3) := by decide +kernel
theorem dX10_move_27 : decode cX10_move 27 = .ok (.iconst (-1), 1) := by decide +kernel
theorem dX10_move_28 : decode cX10_move 28 = .ok (.ireturn, 1) := by decide +kernel
theorem dX10_move_29 : decode cX10_move 29 = .ok (.iconst 0, 1) := by decide +kernel
theorem dX10_move_30 : decode cX10_move 30 = .ok (.istore 6, 2) := by decide +kernel
theorem dX10_move_32 : decode cX10_move 32 = .ok (.aload_n 0, 1) := by decide +kernel
theorem dX10_move_33 : decode cX10_move 33 = .ok (.iconst 0, 1) := by decide +kernel
theorem dX10_move_34 : decode cX10_move 34 = .ok (.putfield 192, 3) := by decide +kernel
theorem dX10_move_37 : decode cX10_move 37 = .ok (.iload 6, 2) := by decide +kernel
theorem dX10_move_39 : decode cX10_move 39 = .ok (.iload 5, 2) := by decide +kernel
theorem dX10_move_41 : decode cX10_move 41 = .ok (.if_icmp .ge 56, 3) := by decide +kernel
theorem dX10_move_44 : decode cX10_move 44 = .ok (.aload_n 0, 1) := by decide +kernel
theorem dX10_move_45 : decode cX10_move 45 = .ok (.getfield 192, 3) := by decide +kernel
theorem dX10_move_48 : decode cX10_move 48 = .ok (.ifCond .ne 49, 3) := by decide +kernel
theorem dX10_move_51 : decode cX10_move 51 = .ok (.aload_n 0, 1) := by decide +kernel
theorem dX10_move_52 : decode cX10_move 52 = .ok (.aload_n 0, 1) := by decide +kernel
theorem dX10_move_53 : decode cX10_move 53 = .ok (.iload_n 1, 1) := by decide +kernel
theorem dX10_move_54 : decode cX10_move 54 = .ok (.iload_n 2, 1) := by decide +kernel
theorem dX10_move_55 : decode cX10_move 55 = .ok (.i2l, 1) := by decide +kernel
theorem dX10_move_56 : decode cX10_move 56 = .ok (.iload 6, 2) := by decide +kernel
theorem dX10_move_58 : decode cX10_move 58 = .ok (.i2l, 1) := by decide +kernel
theorem dX10_move_59 : decode cX10_move 59 = .ok (.ladd, 1) := by decide +kernel
theorem dX10_move_60 : decode cX10_move 60 = .ok (.iload_n 3, 1) := by decide +kernel
theorem dX10_move_61 : decode cX10_move 61 = .ok (.iload 4, 2) := by decide +kernel
theorem dX10_move_63 : decode cX10_move 63 = .ok (.i2l, 1) := by decide +kernel
theorem dX10_move_64 : decode cX10_move 64 = .ok (.iload 6, 2) := by decide +kernel
theorem dX10_move_66 : decode cX10_move 66 = .ok (.i2l, 1) := by decide +kernel
theorem dX10_move_67 : decode cX10_move 67 = .ok (.ladd, 1) := by decide +kernel
theorem dX10_move_68 : decode cX10_move 68 = .ok (.invokevirtual 196, 3) := by decide +kernel
theorem dX10_move_71 : decode cX10_move 71 = .ok (.putfield 192, 3) := by decide +kernel
theorem dX10_move_74 : decode cX10_move 74 = .ok (.iload 6, 2) := by decide +kernel
theorem dX10_move_76 : decode cX10_move 76 = .ok (.aload_n 0, 1) := by decide +kernel
theorem dX10_move_77 : decode cX10_move 77 = .ok (.getfield 192, 3) := by decide +kernel
theorem dX10_move_80 : decode cX10_move 80 = .ok (.ifCond .ne 7, 3) := by decide +kernel
theorem dX10_move_83 : decode cX10_move 83 = .ok (.iconst 1, 1) := by decide +kernel
theorem dX10_move_84 : decode cX10_move 84 = .ok (.goto 4, 3) := by decide +kernel
theorem dX10_move_87 : decode cX10_move 87 = .ok (.iconst 0, 1) := by decide +kernel
theorem dX10_move_88 : decode cX10_move 88 = .ok (.invokestatic 200, 3) := by decide +kernel
theorem dX10_move_91 : decode cX10_move 91 = .ok (.iadd, 1) := by decide +kernel
theorem dX10_move_92 : decode cX10_move 92 = .ok (.istore 6, 2) := by decide +kernel
theorem dX10_move_94 : decode cX10_move 94 = .ok (.goto (-57), 3) := by decide +kernel
theorem dX10_move_97 : decode cX10_move 97 = .ok (.iload 6, 2) := by decide +kernel
theorem dX10_move_99 : decode cX10_move 99 = .ok (.ireturn, 1) := by decide +kernel
theorem dX10_torn_0 : decode cX10_torn 0 = .ok (.aload_n 0, 1) := by decide +kernel
theorem dX10_torn_1 : decode cX10_torn 1 = .ok (.getfield 192, 3) := by decide +kernel
theorem dX10_torn_4 : decode cX10_torn 4 = .ok (.ireturn, 1) := by decide +kernel
theorem dX10_summed_0 : decode cX10_summed 0 = .ok (.lconst 0, 1) := by decide +kernel
theorem dX10_summed_1 : decode cX10_summed 1 = .ok (.lstore_n 3, 1) := by decide +kernel
theorem dX10_summed_2 : decode cX10_summed 2 = .ok (.fconst 0, 1) := by decide +kernel
theorem dX10_summed_3 : decode cX10_summed 3 = .ok (.fstore 5, 2) := by decide +kernel
theorem dX10_summed_5 : decode cX10_summed 5 = .ok (.dconst 0, 1) := by decide +kernel
theorem dX10_summed_6 : decode cX10_summed 6 = .ok (.dstore 6, 2) := by decide +kernel
theorem dX10_summed_8 : decode cX10_summed 8 = .ok (.iconst 0, 1) := by decide +kernel
theorem dX10_summed_9 : decode cX10_summed 9 = .ok (.istore 8, 2) := by decide +kernel
theorem dX10_summed_11 : decode cX10_summed 11 = .ok (.iload 8, 2) := by decide +kernel
theorem dX10_summed_13 : decode cX10_summed 13 = .ok (.aload_n 0, 1) := by decide +kernel
theorem dX10_summed_14 : decode cX10_summed 14 = .ok (.iload_n 1, 1) := by decide +kernel
theorem dX10_summed_15 : decode cX10_summed 15 = .ok (.invokevirtual 152, 3) := by decide +kernel
theorem dX10_summed_18 : decode cX10_summed 18 = .ok (.if_icmp .ge 77, 3) := by decide +kernel
theorem dX10_summed_21 : decode cX10_summed 21 = .ok (.iload_n 2, 1) := by decide +kernel
theorem dX10_summed_22 : decode cX10_summed 22 = .ok (.bipush 6, 2) := by decide +kernel
theorem dX10_summed_24 : decode cX10_summed 24 = .ok (.if_icmp .ne 24, 3) := by decide +kernel
theorem dX10_summed_27 : decode cX10_summed 27 = .ok (.fload 5, 2) := by decide +kernel
theorem dX10_summed_29 : decode cX10_summed 29 = .ok (.aload_n 0, 1) := by decide +kernel
theorem dX10_summed_30 : decode cX10_summed 30 = .ok (.aload_n 0, 1) := by decide +kernel
theorem dX10_summed_31 : decode cX10_summed 31 = .ok (.iload_n 1, 1) := by decide +kernel
theorem dX10_summed_32 : decode cX10_summed 32 = .ok (.iload 8, 2) := by decide +kernel
theorem dX10_summed_34 : decode cX10_summed 34 = .ok (.invokevirtual 135, 3) := by decide +kernel
theorem dX10_summed_37 : decode cX10_summed 37 = .ok (.iload_n 2, 1) := by decide +kernel
theorem dX10_summed_38 : decode cX10_summed 38 = .ok (.invokevirtual 88, 3) := by decide +kernel
theorem dX10_summed_41 : decode cX10_summed 41 = .ok (.d2f, 1) := by decide +kernel
theorem dX10_summed_42 : decode cX10_summed 42 = .ok (.fadd, 1) := by decide +kernel
theorem dX10_summed_43 : decode cX10_summed 43 = .ok (.fstore 5, 2) := by decide +kernel
theorem dX10_summed_45 : decode cX10_summed 45 = .ok (.goto 44, 3) := by decide +kernel
theorem dX10_summed_48 : decode cX10_summed 48 = .ok (.iload_n 2, 1) := by decide +kernel
theorem dX10_summed_49 : decode cX10_summed 49 = .ok (.bipush 7, 2) := by decide +kernel
theorem dX10_summed_51 : decode cX10_summed 51 = .ok (.if_icmp .ne 23, 3) := by decide +kernel
theorem dX10_summed_54 : decode cX10_summed 54 = .ok (.dload 6, 2) := by decide +kernel
theorem dX10_summed_56 : decode cX10_summed 56 = .ok (.aload_n 0, 1) := by decide +kernel
theorem dX10_summed_57 : decode cX10_summed 57 = .ok (.aload_n 0, 1) := by decide +kernel
theorem dX10_summed_58 : decode cX10_summed 58 = .ok (.iload_n 1, 1) := by decide +kernel
theorem dX10_summed_59 : decode cX10_summed 59 = .ok (.iload 8, 2) := by decide +kernel
theorem dX10_summed_61 : decode cX10_summed 61 = .ok (.invokevirtual 135, 3) := by decide +kernel
theorem dX10_summed_64 : decode cX10_summed 64 = .ok (.iload_n 2, 1) := by decide +kernel
theorem dX10_summed_65 : decode cX10_summed 65 = .ok (.invokevirtual 88, 3) := by decide +kernel
theorem dX10_summed_68 : decode cX10_summed 68 = .ok (.dadd, 1) := by decide +kernel
theorem dX10_summed_69 : decode cX10_summed 69 = .ok (.dstore 6, 2) := by decide +kernel
theorem dX10_summed_71 : decode cX10_summed 71 = .ok (.goto 18, 3) := by decide +kernel
theorem dX10_summed_74 : decode cX10_summed 74 = .ok (.lload_n 3, 1) := by decide +kernel
theorem dX10_summed_75 : decode cX10_summed 75 = .ok (.aload_n 0, 1) := by decide +kernel
theorem dX10_summed_76 : decode cX10_summed 76 = .ok (.getfield 13, 3) := by decide +kernel
theorem dX10_summed_79 : decode cX10_summed 79 = .ok (.aload_n 0, 1) := by decide +kernel
theorem dX10_summed_80 : decode cX10_summed 80 = .ok (.iload_n 1, 1) := by decide +kernel
theorem dX10_summed_81 : decode cX10_summed 81 = .ok (.iload 8, 2) := by decide +kernel
theorem dX10_summed_83 : decode cX10_summed 83 = .ok (.invokevirtual 135, 3) := by decide +kernel
theorem dX10_summed_86 : decode cX10_summed 86 = .ok (.laload, 1) := by decide +kernel
theorem dX10_summed_87 : decode cX10_summed 87 = .ok (.ladd, 1) := by decide +kernel
theorem dX10_summed_88 : decode cX10_summed 88 = .ok (.lstore_n 3, 1) := by decide +kernel
theorem dX10_summed_89 : decode cX10_summed 89 = .ok (.iinc 8 1, 3) := by decide +kernel
theorem dX10_summed_92 : decode cX10_summed 92 = .ok (.goto (-81), 3) := by decide +kernel
theorem dX10_summed_95 : decode cX10_summed 95 = .ok (.iload_n 2, 1) := by decide +kernel
theorem dX10_summed_96 : decode cX10_summed 96 = .ok (.bipush 6, 2) := by decide +kernel
theorem dX10_summed_98 : decode cX10_summed 98 = .ok (.if_icmp .ne 13, 3) := by decide +kernel
theorem dX10_summed_101 : decode cX10_summed 101 = .ok (.iload_n 2, 1) := by decide +kernel
theorem dX10_summed_102 : decode cX10_summed 102 = .ok (.fload 5, 2) := by decide +kernel
theorem dX10_summed_104 : decode cX10_summed 104 = .ok (.f2d, 1) := by decide +kernel
theorem dX10_summed_105 : decode cX10_summed 105 = .ok (.invokestatic 104, 3) := by decide +kernel
theorem dX10_summed_108 : decode cX10_summed 108 = .ok (.goto 19, 3) := by decide +kernel
theorem dX10_summed_111 : decode cX10_summed 111 = .ok (.iload_n 2, 1) := by decide +kernel
theorem dX10_summed_112 : decode cX10_summed 112 = .ok (.bipush 7, 2) := by decide +kernel
theorem dX10_summed_114 : decode cX10_summed 114 = .ok (.if_icmp .ne 12, 3) := by decide +kernel
theorem dX10_summed_117 : decode cX10_summed 117 = .ok (.iload_n 2, 1) := by decide +kernel
theorem dX10_summed_118 : decode cX10_summed 118 = .ok (.dload 6, 2) := by decide +kernel
theorem dX10_summed_120 : decode cX10_summed 120 = .ok (.invokestatic 104, 3) := by decide +kernel
theorem dX10_summed_123 : decode cX10_summed 123 = .ok (.goto 4, 3) := by decide +kernel
theorem dX10_summed_126 : decode cX10_summed 126 = .ok (.lload_n 3, 1) := by decide +kernel
theorem dX10_summed_127 : decode cX10_summed 127 = .ok (.lreturn, 1) := by decide +kernel
theorem dX10_sum_0 : decode cX10_sum 0 = .ok (.iload_n 1, 1) := by decide +kernel
theorem dX10_sum_1 : decode cX10_sum 1 = .ok (.invokestatic 141, 3) := by decide +kernel
theorem dX10_sum_4 : decode cX10_sum 4 = .ok (.ifCond .eq 15, 3) := by decide +kernel
theorem dX10_sum_7 : decode cX10_sum 7 = .ok (.iload_n 2, 1) := by decide +kernel
theorem dX10_sum_8 : decode cX10_sum 8 = .ok (.i2l, 1) := by decide +kernel
theorem dX10_sum_9 : decode cX10_sum 9 = .ok (.lconst 1, 1) := by decide +kernel
theorem dX10_sum_10 : decode cX10_sum 10 = .ok (.ldc2_w 70, 3) := by decide +kernel
theorem dX10_sum_13 : decode cX10_sum 13 = .ok (.invokestatic 72, 3) := by decide +kernel
theorem dX10_sum_16 : decode cX10_sum 16 = .ok (.ifCond .ne 5, 3) := by decide +kernel
theorem dX10_sum_19 : decode cX10_sum 19 = .ok (.iconst (-1), 1) := by decide +kernel
theorem dX10_sum_20 : decode cX10_sum 20 = .ok (.ireturn, 1) := by decide +kernel
theorem dX10_sum_21 : decode cX10_sum 21 = .ok (.aload_n 0, 1) := by decide +kernel
theorem dX10_sum_22 : decode cX10_sum 22 = .ok (.iload_n 1, 1) := by decide +kernel
theorem dX10_sum_23 : decode cX10_sum 23 = .ok (.invokevirtual 124, 3) := by decide +kernel
theorem dX10_sum_26 : decode cX10_sum 26 = .ok (.istore_n 3, 1) := by decide +kernel
theorem dX10_sum_27 : decode cX10_sum 27 = .ok (.iload_n 3, 1) := by decide +kernel
theorem dX10_sum_28 : decode cX10_sum 28 = .ok (.ifCond .ne 19, 3) := by decide +kernel
theorem dX10_sum_31 : decode cX10_sum 31 = .ok (.aload_n 0, 1) := by decide +kernel
theorem dX10_sum_32 : decode cX10_sum 32 = .ok (.iload_n 1, 1) := by decide +kernel
theorem dX10_sum_33 : decode cX10_sum 33 = .ok (.invokevirtual 152, 3) := by decide +kernel
theorem dX10_sum_36 : decode cX10_sum 36 = .ok (.ifCond .le 11, 3) := by decide +kernel
theorem dX10_sum_39 : decode cX10_sum 39 = .ok (.aload_n 0, 1) := by decide +kernel
theorem dX10_sum_40 : decode cX10_sum 40 = .ok (.iload_n 1, 1) := by decide +kernel
theorem dX10_sum_41 : decode cX10_sum 41 = .ok (.lconst 0, 1) := by decide +kernel
theorem dX10_sum_42 : decode cX10_sum 42 = .ok (.iload_n 2, 1) := by decide +kernel
theorem dX10_sum_43 : decode cX10_sum 43 = .ok (.invokevirtual 162, 3) := by decide +kernel
theorem dX10_sum_46 : decode cX10_sum 46 = .ok (.istore_n 3, 1) := by decide +kernel
theorem dX10_sum_47 : decode cX10_sum 47 = .ok (.iload_n 3, 1) := by decide +kernel
theorem dX10_sum_48 : decode cX10_sum 48 = .ok (.ifCond .le 8, 3) := by decide +kernel
theorem dX10_sum_51 : decode cX10_sum 51 = .ok (.bipush (-10), 2) := by decide +kernel
theorem dX10_sum_53 : decode cX10_sum 53 = .ok (.iload_n 3, 1) := by decide +kernel
theorem dX10_sum_54 : decode cX10_sum 54 = .ok (.isub, 1) := by decide +kernel
theorem dX10_sum_55 : decode cX10_sum 55 = .ok (.ireturn, 1) := by decide +kernel
theorem dX10_sum_56 : decode cX10_sum 56 = .ok (.aload_n 0, 1) := by decide +kernel
theorem dX10_sum_57 : decode cX10_sum 57 = .ok (.aload_n 0, 1) := by decide +kernel
theorem dX10_sum_58 : decode cX10_sum 58 = .ok (.iload_n 1, 1) := by decide +kernel
theorem dX10_sum_59 : decode cX10_sum 59 = .ok (.iload_n 2, 1) := by decide +kernel
theorem dX10_sum_60 : decode cX10_sum 60 = .ok (.invokevirtual 204, 3) := by decide +kernel
theorem dX10_sum_63 : decode cX10_sum 63 = .ok (.putfield 170, 3) := by decide +kernel
theorem dX10_sum_66 : decode cX10_sum 66 = .ok (.iconst 1, 1) := by decide +kernel
theorem dX10_sum_67 : decode cX10_sum 67 = .ok (.ireturn, 1) := by decide +kernel
theorem dX10_rate_0 : decode cX10_rate 0 = .ok (.iload_n 1, 1) := by decide +kernel
theorem dX10_rate_1 : decode cX10_rate 1 = .ok (.i2l, 1) := by decide +kernel
theorem dX10_rate_2 : decode cX10_rate 2 = .ok (.lconst 0, 1) := by decide +kernel
theorem dX10_rate_3 : decode cX10_rate 3 = .ok (.ldc2_w 207, 3) := by decide +kernel
theorem dX10_rate_6 : decode cX10_rate 6 = .ok (.invokestatic 72, 3) := by decide +kernel
theorem dX10_rate_9 : decode cX10_rate 9 = .ok (.ifCond .eq 39, 3) := by decide +kernel
theorem dX10_rate_12 : decode cX10_rate 12 = .ok (.iload_n 2, 1) := by decide +kernel
theorem dX10_rate_13 : decode cX10_rate 13 = .ok (.i2l, 1) := by decide +kernel
theorem dX10_rate_14 : decode cX10_rate 14 = .ok (.iload_n 1, 1) := by decide +kernel
theorem dX10_rate_15 : decode cX10_rate 15 = .ok (.iconst 1, 1) := by decide +kernel
theorem dX10_rate_16 : decode cX10_rate 16 = .ok (.if_icmp .eq 8, 3) := by decide +kernel
theorem dX10_rate_19 : decode cX10_rate 19 = .ok (.iload_n 1, 1) := by decide +kernel
theorem dX10_rate_20 : decode cX10_rate 20 = .ok (.iconst 2, 1) := by decide +kernel
theorem dX10_rate_21 : decode cX10_rate 21 = .ok (.if_icmp .ne 7, 3) := by decide +kernel
theorem dX10_rate_24 : decode cX10_rate 24 = .ok (.lconst 1, 1) := by decide +kernel
theorem dX10_rate_25 : decode cX10_rate 25 = .ok (.goto 4, 3) := by decide +kernel
theorem dX10_rate_28 : decode cX10_rate 28 = .ok (.lconst 0, 1) := by decide +kernel
theorem dX10_rate_29 : decode cX10_rate 29 = .ok (.iload_n 1, 1) := by decide +kernel
theorem dX10_rate_30 : decode cX10_rate 30 = .ok (.ifCond .ne 9, 3) := by decide +kernel
theorem dX10_rate_33 : decode cX10_rate 33 = .ok (.ldc2_w 209, 3) := by decide +kernel
theorem dX10_rate_36 : decode cX10_rate 36 = .ok (.goto 6, 3) := by decide +kernel
theorem dX10_rate_39 : decode cX10_rate 39 = .ok (.ldc2_w 211, 3) := by decide +kernel
theorem dX10_rate_42 : decode cX10_rate 42 = .ok (.invokestatic 72, 3) := by decide +kernel
theorem dX10_rate_45 : decode cX10_rate 45 = .ok (.ifCond .ne 5, 3) := by decide +kernel
theorem dX10_rate_48 : decode cX10_rate 48 = .ok (.iconst (-1), 1) := by decide +kernel
theorem dX10_rate_49 : decode cX10_rate 49 = .ok (.ireturn, 1) := by decide +kernel
theorem dX10_rate_50 : decode cX10_rate 50 = .ok (.aload_n 0, 1) := by decide +kernel
theorem dX10_rate_51 : decode cX10_rate 51 = .ok (.getfield 30, 3) := by decide +kernel
theorem dX10_rate_54 : decode cX10_rate 54 = .ok (.iload_n 1, 1) := by decide +kernel
theorem dX10_rate_55 : decode cX10_rate 55 = .ok (.iaload, 1) := by decide +kernel
theorem dX10_rate_56 : decode cX10_rate 56 = .ok (.istore_n 3, 1) := by decide +kernel
theorem dX10_rate_57 : decode cX10_rate 57 = .ok (.aload_n 0, 1) := by decide +kernel
theorem dX10_rate_58 : decode cX10_rate 58 = .ok (.getfield 30, 3) := by decide +kernel
theorem dX10_rate_61 : decode cX10_rate 61 = .ok (.iload_n 1, 1) := by decide +kernel
theorem dX10_rate_62 : decode cX10_rate 62 = .ok (.iload_n 2, 1) := by decide +kernel
theorem dX10_rate_63 : decode cX10_rate 63 = .ok (.iastore, 1) := by decide +kernel
theorem dX10_rate_64 : decode cX10_rate 64 = .ok (.iload_n 3, 1) := by decide +kernel
theorem dX10_rate_65 : decode cX10_rate 65 = .ok (.ireturn, 1) := by decide +kernel
theorem dX10_like_0 : decode cX10_like 0 = .ok (.iload_n 1, 1) := by decide +kernel
theorem dX10_like_1 : decode cX10_like 1 = .ok (.invokestatic 141, 3) := by decide +kernel
theorem dX10_like_4 : decode cX10_like 4 = .ok (.ifCond .eq 10, 3) := by decide +kernel
theorem dX10_like_7 : decode cX10_like 7 = .ok (.iload_n 3, 1) := by decide +kernel
theorem dX10_like_8 : decode cX10_like 8 = .ok (.invokestatic 141, 3) := by decide +kernel
theorem dX10_like_11 : decode cX10_like 11 = .ok (.ifCond .ne 5, 3) := by decide +kernel
theorem dX10_like_14 : decode cX10_like 14 = .ok (.iconst (-1), 1) := by decide +kernel
theorem dX10_like_15 : decode cX10_like 15 = .ok (.ireturn, 1) := by decide +kernel
theorem dX10_like_16 : decode cX10_like 16 = .ok (.aload_n 0, 1) := by decide +kernel
theorem dX10_like_17 : decode cX10_like 17 = .ok (.iload_n 1, 1) := by decide +kernel
theorem dX10_like_18 : decode cX10_like 18 = .ok (.iload_n 2, 1) := by decide +kernel
theorem dX10_like_19 : decode cX10_like 19 = .ok (.i2l, 1) := by decide +kernel
theorem dX10_like_20 : decode cX10_like 20 = .ok (.invokevirtual 155, 3) := by decide +kernel
theorem dX10_like_23 : decode cX10_like 23 = .ok (.istore 5, 2) := by decide +kernel
theorem dX10_like_25 : decode cX10_like 25 = .ok (.iload 5, 2) := by decide +kernel
theorem dX10_like_27 : decode cX10_like 27 = .ok (.ifCond .le 8, 3) := by decide +kernel
theorem dX10_like_30 : decode cX10_like 30 = .ok (.iload 5, 2) := by decide +kernel
theorem dX10_like_32 : decode cX10_like 32 = .ok (.goto 11, 3) := by decide +kernel
theorem dX10_like_35 : decode cX10_like 35 = .ok (.aload_n 0, 1) := by decide +kernel
theorem dX10_like_36 : decode cX10_like 36 = .ok (.iload_n 3, 1) := by decide +kernel
theorem dX10_like_37 : decode cX10_like 37 = .ok (.iload 4, 2) := by decide +kernel
theorem dX10_like_39 : decode cX10_like 39 = .ok (.i2l, 1) := by decide +kernel
theorem dX10_like_40 : decode cX10_like 40 = .ok (.invokevirtual 155, 3) := by decide +kernel
theorem dX10_like_43 : decode cX10_like 43 = .ok (.istore 5, 2) := by decide +kernel
theorem dX10_like_45 : decode cX10_like 45 = .ok (.iload 5, 2) := by decide +kernel
theorem dX10_like_47 : decode cX10_like 47 = .ok (.ifCond .le 11, 3) := by decide +kernel
theorem dX10_like_50 : decode cX10_like 50 = .ok (.bipush (-10), 2) := by decide +kernel
theorem dX10_like_52 : decode cX10_like 52 = .ok (.iload 5, 2) := by decide +kernel
theorem dX10_like_54 : decode cX10_like 54 = .ok (.isub, 1) := by decide +kernel
theorem dX10_like_55 : decode cX10_like 55 = .ok (.goto 20, 3) := by decide +kernel
theorem dX10_like_58 : decode cX10_like 58 = .ok (.aload_n 0, 1) := by decide +kernel
theorem dX10_like_59 : decode cX10_like 59 = .ok (.aload_n 0, 1) := by decide +kernel
theorem dX10_like_60 : decode cX10_like 60 = .ok (.iload_n 1, 1) := by decide +kernel
theorem dX10_like_61 : decode cX10_like 61 = .ok (.iload_n 2, 1) := by decide +kernel
theorem dX10_like_62 : decode cX10_like 62 = .ok (.invokevirtual 135, 3) := by decide +kernel
theorem dX10_like_65 : decode cX10_like 65 = .ok (.aload_n 0, 1) := by decide +kernel
theorem dX10_like_66 : decode cX10_like 66 = .ok (.iload_n 3, 1) := by decide +kernel
theorem dX10_like_67 : decode cX10_like 67 = .ok (.iload 4, 2) := by decide +kernel
theorem dX10_like_69 : decode cX10_like 69 = .ok (.invokevirtual 135, 3) := by decide +kernel
theorem dX10_like_72 : decode cX10_like 72 = .ok (.invokevirtual 213, 3) := by decide +kernel
theorem dX10_like_75 : decode cX10_like 75 = .ok (.ireturn, 1) := by decide +kernel
theorem dX10_besideCosts_0 : decode cX10_besideCosts 0 = .ok (.aload_n 0, 1) := by decide +kernel
theorem dX10_besideCosts_1 : decode cX10_besideCosts 1 = .ok (.iload_n 1, 1) := by decide +kernel
theorem dX10_besideCosts_2 : decode cX10_besideCosts 2 = .ok (.iload_n 2, 1) := by decide +kernel
theorem dX10_besideCosts_3 : decode cX10_besideCosts 3 = .ok (.invokevirtual 213, 3) := by decide +kernel
theorem dX10_besideCosts_6 : decode cX10_besideCosts 6 = .ok (.istore_n 3, 1) := by decide +kernel
theorem dX10_besideCosts_7 : decode cX10_besideCosts 7 = .ok (.iload_n 3, 1) := by decide +kernel
theorem dX10_besideCosts_8 : decode cX10_besideCosts 8 = .ok (.iconst 2, 1) := by decide +kernel
theorem dX10_besideCosts_9 : decode cX10_besideCosts 9 = .ok (.if_icmp .ne 12, 3) := by decide +kernel
theorem dX10_besideCosts_12 : decode cX10_besideCosts 12 = .ok (.aload_n 0, 1) := by decide +kernel
theorem dX10_besideCosts_13 : decode cX10_besideCosts 13 = .ok (.getfield 30, 3) := by decide +kernel
theorem dX10_besideCosts_16 : decode cX10_besideCosts 16 = .ok (.iconst 1, 1) := by decide +kernel
theorem dX10_besideCosts_17 : decode cX10_besideCosts 17 = .ok (.iaload, 1) := by decide +kernel
theorem dX10_besideCosts_18 : decode cX10_besideCosts 18 = .ok (.goto 4, 3) := by decide +kernel
theorem dX10_besideCosts_21 : decode cX10_besideCosts 21 = .ok (.iload_n 3, 1) := by decide +kernel
theorem dX10_besideCosts_22 : decode cX10_besideCosts 22 = .ok (.ireturn, 1) := by decide +kernel
theorem dX10_isTwice_0 : decode cX10_isTwice 0 = .ok (.iload_n 2, 1) := by decide +kernel
theorem dX10_isTwice_1 : decode cX10_isTwice 1 = .ok (.ifCond .le 28, 3) := by decide +kernel
theorem dX10_isTwice_4 : decode cX10_isTwice 4 = .ok (.aload_n 0, 1) := by decide +kernel
theorem dX10_isTwice_5 : decode cX10_isTwice 5 = .ok (.bipush 20, 2) := by decide +kernel
theorem dX10_isTwice_7 : decode cX10_isTwice 7 = .ok (.iload_n 1, 1) := by decide +kernel
theorem dX10_isTwice_8 : decode cX10_isTwice 8 = .ok (.imul, 1) := by decide +kernel
theorem dX10_isTwice_9 : decode cX10_isTwice 9 = .ok (.iload_n 2, 1) := by decide +kernel
theorem dX10_isTwice_10 : decode cX10_isTwice 10 = .ok (.iadd, 1) := by decide +kernel
theorem dX10_isTwice_11 : decode cX10_isTwice 11 = .ok (.iconst 1, 1) := by decide +kernel
theorem dX10_isTwice_12 : decode cX10_isTwice 12 = .ok (.isub, 1) := by decide +kernel
theorem dX10_isTwice_13 : decode cX10_isTwice 13 = .ok (.bipush 20, 2) := by decide +kernel
theorem dX10_isTwice_15 : decode cX10_isTwice 15 = .ok (.iload_n 1, 1) := by decide +kernel
theorem dX10_isTwice_16 : decode cX10_isTwice 16 = .ok (.imul, 1) := by decide +kernel
theorem dX10_isTwice_17 : decode cX10_isTwice 17 = .ok (.iload_n 2, 1) := by decide +kernel
theorem dX10_isTwice_18 : decode cX10_isTwice 18 = .ok (.iadd, 1) := by decide +kernel
theorem dX10_isTwice_19 : decode cX10_isTwice 19 = .ok (.invokevirtual 112, 3) := by decide +kernel
theorem dX10_isTwice_22 : decode cX10_isTwice 22 = .ok (.ifCond .eq 7, 3) := by decide +kernel
theorem dX10_isTwice_25 : decode cX10_isTwice 25 = .ok (.iconst 1, 1) := by decide +kernel
theorem dX10_isTwice_26 : decode cX10_isTwice 26 = .ok (.goto 4, 3) := by decide +kernel
theorem dX10_isTwice_29 : decode cX10_isTwice 29 = .ok (.iconst 0, 1) := by decide +kernel
theorem dX10_isTwice_30 : decode cX10_isTwice 30 = .ok (.ireturn, 1) := by decide +kernel
theorem dX10_aloneCosts_0 : decode cX10_aloneCosts 0 = .ok (.aload_n 0, 1) := by decide +kernel
theorem dX10_aloneCosts_1 : decode cX10_aloneCosts 1 = .ok (.iload_n 1, 1) := by decide +kernel
theorem dX10_aloneCosts_2 : decode cX10_aloneCosts 2 = .ok (.iload_n 2, 1) := by decide +kernel
theorem dX10_aloneCosts_3 : decode cX10_aloneCosts 3 = .ok (.invokevirtual 216, 3) := by decide +kernel
theorem dX10_aloneCosts_6 : decode cX10_aloneCosts 6 = .ok (.ifCond .eq 12, 3) := by decide +kernel
theorem dX10_aloneCosts_9 : decode cX10_aloneCosts 9 = .ok (.aload_n 0, 1) := by decide +kernel
theorem dX10_aloneCosts_10 : decode cX10_aloneCosts 10 = .ok (.getfield 30, 3) := by decide +kernel
theorem dX10_aloneCosts_13 : decode cX10_aloneCosts 13 = .ok (.iconst 3, 1) := by decide +kernel
theorem dX10_aloneCosts_14 : decode cX10_aloneCosts 14 = .ok (.iaload, 1) := by decide +kernel
theorem dX10_aloneCosts_15 : decode cX10_aloneCosts 15 = .ok (.goto 9, 3) := by decide +kernel
theorem dX10_aloneCosts_18 : decode cX10_aloneCosts 18 = .ok (.aload_n 0, 1) := by decide +kernel
theorem dX10_aloneCosts_19 : decode cX10_aloneCosts 19 = .ok (.getfield 30, 3) := by decide +kernel
theorem dX10_aloneCosts_22 : decode cX10_aloneCosts 22 = .ok (.iconst 2, 1) := by decide +kernel
theorem dX10_aloneCosts_23 : decode cX10_aloneCosts 23 = .ok (.iaload, 1) := by decide +kernel
theorem dX10_aloneCosts_24 : decode cX10_aloneCosts 24 = .ok (.ireturn, 1) := by decide +kernel
theorem dX10_leastOf_0 : decode cX10_leastOf 0 = .ok (.iload_n 0, 1) := by decide +kernel
theorem dX10_leastOf_1 : decode cX10_leastOf 1 = .ok (.iload_n 1, 1) := by decide +kernel
theorem dX10_leastOf_2 : decode cX10_leastOf 2 = .ok (.if_icmp .ge 7, 3) := by decide +kernel
theorem dX10_leastOf_5 : decode cX10_leastOf 5 = .ok (.iload_n 0, 1) := by decide +kernel
theorem dX10_leastOf_6 : decode cX10_leastOf 6 = .ok (.goto 4, 3) := by decide +kernel
theorem dX10_leastOf_9 : decode cX10_leastOf 9 = .ok (.iload_n 1, 1) := by decide +kernel
theorem dX10_leastOf_10 : decode cX10_leastOf 10 = .ok (.ireturn, 1) := by decide +kernel
theorem dX10_pathCosts_0 : decode cX10_pathCosts 0 = .ok (.aload_n 0, 1) := by decide +kernel
theorem dX10_pathCosts_1 : decode cX10_pathCosts 1 = .ok (.getfield 24, 3) := by decide +kernel
theorem dX10_pathCosts_4 : decode cX10_pathCosts 4 = .ok (.iload_n 1, 1) := by decide +kernel
theorem dX10_pathCosts_5 : decode cX10_pathCosts 5 = .ok (.iaload, 1) := by decide +kernel
theorem dX10_pathCosts_6 : decode cX10_pathCosts 6 = .ok (.istore_n 3, 1) := by decide +kernel
theorem dX10_pathCosts_7 : decode cX10_pathCosts 7 = .ok (.iload_n 3, 1) := by decide +kernel
theorem dX10_pathCosts_8 : decode cX10_pathCosts 8 = .ok (.ifCond .lt 211, 3) := by decide +kernel
theorem dX10_pathCosts_11 : decode cX10_pathCosts 11 = .ok (.aload_n 0, 1) := by decide +kernel
theorem dX10_pathCosts_12 : decode cX10_pathCosts 12 = .ok (.getfield 24, 3) := by decide +kernel
theorem dX10_pathCosts_15 : decode cX10_pathCosts 15 = .ok (.iload_n 2, 1) := by decide +kernel
theorem dX10_pathCosts_16 : decode cX10_pathCosts 16 = .ok (.iaload, 1) := by decide +kernel
theorem dX10_pathCosts_17 : decode cX10_pathCosts 17 = .ok (.istore 4, 2) := by decide +kernel
theorem dX10_pathCosts_19 : decode cX10_pathCosts 19 = .ok (.iload 4, 2) := by decide +kernel
theorem dX10_pathCosts_21 : decode cX10_pathCosts 21 = .ok (.ifCond .lt 192, 3) := by decide +kernel
theorem dX10_pathCosts_24 : decode cX10_pathCosts 24 = .ok (.iload_n 3, 1) := by decide +kernel
theorem dX10_pathCosts_25 : decode cX10_pathCosts 25 = .ok (.aload_n 0, 1) := by decide +kernel
theorem dX10_pathCosts_26 : decode cX10_pathCosts 26 = .ok (.getfield 24, 3) := by decide +kernel
theorem dX10_pathCosts_29 : decode cX10_pathCosts 29 = .ok (.iload_n 1, 1) := by decide +kernel
theorem dX10_pathCosts_30 : decode cX10_pathCosts 30 = .ok (.iaload, 1) := by decide +kernel
theorem dX10_pathCosts_31 : decode cX10_pathCosts 31 = .ok (.if_icmp .ne 18, 3) := by decide +kernel
theorem dX10_pathCosts_34 : decode cX10_pathCosts 34 = .ok (.iload 4, 2) := by decide +kernel
theorem dX10_pathCosts_36 : decode cX10_pathCosts 36 = .ok (.aload_n 0, 1) := by decide +kernel
theorem dX10_pathCosts_37 : decode cX10_pathCosts 37 = .ok (.getfield 24, 3) := by decide +kernel
theorem dX10_pathCosts_40 : decode cX10_pathCosts 40 = .ok (.iload_n 2, 1) := by decide +kernel
theorem dX10_pathCosts_41 : decode cX10_pathCosts 41 = .ok (.iaload, 1) := by decide +kernel
theorem dX10_pathCosts_42 : decode cX10_pathCosts 42 = .ok (.if_icmp .ne 7, 3) := by decide +kernel
theorem dX10_pathCosts_45 : decode cX10_pathCosts 45 = .ok (.iconst 0, 1) := by decide +kernel
theorem dX10_pathCosts_46 : decode cX10_pathCosts 46 = .ok (.goto 5, 3) := by decide +kernel
theorem dX10_pathCosts_49 : decode cX10_pathCosts 49 = .ok (.ldc 219, 2) := by decide +kernel
theorem dX10_pathCosts_51 : decode cX10_pathCosts 51 = .ok (.istore 5, 2) := by decide +kernel
theorem dX10_pathCosts_53 : decode cX10_pathCosts 53 = .ok (.iload_n 3, 1) := by decide +kernel
theorem dX10_pathCosts_54 : decode cX10_pathCosts 54 = .ok (.aload_n 0, 1) := by decide +kernel
theorem dX10_pathCosts_55 : decode cX10_pathCosts 55 = .ok (.getfield 24, 3) := by decide +kernel
theorem dX10_pathCosts_58 : decode cX10_pathCosts 58 = .ok (.iload_n 1, 1) := by decide +kernel
theorem dX10_pathCosts_59 : decode cX10_pathCosts 59 = .ok (.iaload, 1) := by decide +kernel
theorem dX10_pathCosts_60 : decode cX10_pathCosts 60 = .ok (.if_icmp .ge 32, 3) := by decide +kernel
theorem dX10_pathCosts_63 : decode cX10_pathCosts 63 = .ok (.iload 5, 2) := by decide +kernel
theorem dX10_pathCosts_65 : decode cX10_pathCosts 65 = .ok (.aload_n 0, 1) := by decide +kernel
theorem dX10_pathCosts_66 : decode cX10_pathCosts 66 = .ok (.iload_n 1, 1) := by decide +kernel
theorem dX10_pathCosts_67 : decode cX10_pathCosts 67 = .ok (.iload_n 3, 1) := by decide +kernel
theorem dX10_pathCosts_68 : decode cX10_pathCosts 68 = .ok (.invokevirtual 220, 3) := by decide +kernel
theorem dX10_pathCosts_71 : decode cX10_pathCosts 71 = .ok (.aload_n 0, 1) := by decide +kernel
theorem dX10_pathCosts_72 : decode cX10_pathCosts 72 = .ok (.getfield 33, 3) := by decide +kernel
theorem dX10_pathCosts_75 : decode cX10_pathCosts 75 = .ok (.bipush 21, 2) := by decide +kernel
theorem dX10_pathCosts_77 : decode cX10_pathCosts 77 = .ok (.iload_n 3, 1) := by decide +kernel
theorem dX10_pathCosts_78 : decode cX10_pathCosts 78 = .ok (.imul, 1) := by decide +kernel
theorem dX10_pathCosts_79 : decode cX10_pathCosts 79 = .ok (.bipush 21, 2) := by decide +kernel
theorem dX10_pathCosts_81 : decode cX10_pathCosts 81 = .ok (.iadd, 1) := by decide +kernel
theorem dX10_pathCosts_82 : decode cX10_pathCosts 82 = .ok (.iload 4, 2) := by decide +kernel
theorem dX10_pathCosts_84 : decode cX10_pathCosts 84 = .ok (.iadd, 1) := by decide +kernel
theorem dX10_pathCosts_85 : decode cX10_pathCosts 85 = .ok (.iaload, 1) := by decide +kernel
theorem dX10_pathCosts_86 : decode cX10_pathCosts 86 = .ok (.iadd, 1) := by decide +kernel
theorem dX10_pathCosts_87 : decode cX10_pathCosts 87 = .ok (.invokestatic 223, 3) := by decide +kernel
theorem dX10_pathCosts_90 : decode cX10_pathCosts 90 = .ok (.istore 5, 2) := by decide +kernel
theorem dX10_pathCosts_92 : decode cX10_pathCosts 92 = .ok (.iload 4, 2) := by decide +kernel
theorem dX10_pathCosts_94 : decode cX10_pathCosts 94 = .ok (.aload_n 0, 1) := by decide +kernel
theorem dX10_pathCosts_95 : decode cX10_pathCosts 95 = .ok (.getfield 24, 3) := by decide +kernel
theorem dX10_pathCosts_98 : decode cX10_pathCosts 98 = .ok (.iload_n 2, 1) := by decide +kernel
theorem dX10_pathCosts_99 : decode cX10_pathCosts 99 = .ok (.iaload, 1) := by decide +kernel
theorem dX10_pathCosts_100 : decode cX10_pathCosts 100 = .ok (.if_icmp .ge 32, 3) := by decide +kernel
theorem dX10_pathCosts_103 : decode cX10_pathCosts 103 = .ok (.iload 5, 2) := by decide +kernel
theorem dX10_pathCosts_105 : decode cX10_pathCosts 105 = .ok (.aload_n 0, 1) := by decide +kernel
theorem dX10_pathCosts_106 : decode cX10_pathCosts 106 = .ok (.iload_n 2, 1) := by decide +kernel
theorem dX10_pathCosts_107 : decode cX10_pathCosts 107 = .ok (.iload 4, 2) := by decide +kernel
theorem dX10_pathCosts_109 : decode cX10_pathCosts 109 = .ok (.invokevirtual 220, 3) := by decide +kernel
theorem dX10_pathCosts_112 : decode cX10_pathCosts 112 = .ok (.aload_n 0, 1) := by decide +kernel
theorem dX10_pathCosts_113 : decode cX10_pathCosts 113 = .ok (.getfield 33, 3) := by decide +kernel
theorem dX10_pathCosts_116 : decode cX10_pathCosts 116 = .ok (.bipush 21, 2) := by decide +kernel
theorem dX10_pathCosts_118 : decode cX10_pathCosts 118 = .ok (.iload_n 3, 1) := by decide +kernel
theorem dX10_pathCosts_119 : decode cX10_pathCosts 119 = .ok (.imul, 1) := by decide +kernel
theorem dX10_pathCosts_120 : decode cX10_pathCosts 120 = .ok (.iload 4, 2) := by decide +kernel
theorem dX10_pathCosts_122 : decode cX10_pathCosts 122 = .ok (.iadd, 1) := by decide +kernel
theorem dX10_pathCosts_123 : decode cX10_pathCosts 123 = .ok (.iconst 1, 1) := by decide +kernel
theorem dX10_pathCosts_124 : decode cX10_pathCosts 124 = .ok (.iadd, 1) := by decide +kernel
theorem dX10_pathCosts_125 : decode cX10_pathCosts 125 = .ok (.iaload, 1) := by decide +kernel
theorem dX10_pathCosts_126 : decode cX10_pathCosts 126 = .ok (.iadd, 1) := by decide +kernel
theorem dX10_pathCosts_127 : decode cX10_pathCosts 127 = .ok (.invokestatic 223, 3) := by decide +kernel
theorem dX10_pathCosts_130 : decode cX10_pathCosts 130 = .ok (.istore 5, 2) := by decide +kernel
theorem dX10_pathCosts_132 : decode cX10_pathCosts 132 = .ok (.iload_n 3, 1) := by decide +kernel
theorem dX10_pathCosts_133 : decode cX10_pathCosts 133 = .ok (.aload_n 0, 1) := by decide +kernel
theorem dX10_pathCosts_134 : decode cX10_pathCosts 134 = .ok (.getfield 24, 3) := by decide +kernel
theorem dX10_pathCosts_137 : decode cX10_pathCosts 137 = .ok (.iload_n 1, 1) := by decide +kernel
theorem dX10_pathCosts_138 : decode cX10_pathCosts 138 = .ok (.iaload, 1) := by decide +kernel
theorem dX10_pathCosts_139 : decode cX10_pathCosts 139 = .ok (.if_icmp .ge 54, 3) := by decide +kernel
theorem dX10_pathCosts_142 : decode cX10_pathCosts 142 = .ok (.iload 4, 2) := by decide +kernel
theorem dX10_pathCosts_144 : decode cX10_pathCosts 144 = .ok (.aload_n 0, 1) := by decide +kernel
theorem dX10_pathCosts_145 : decode cX10_pathCosts 145 = .ok (.getfield 24, 3) := by decide +kernel
theorem dX10_pathCosts_148 : decode cX10_pathCosts 148 = .ok (.iload_n 2, 1) := by decide +kernel
theorem dX10_pathCosts_149 : decode cX10_pathCosts 149 = .ok (.iaload, 1) := by decide +kernel
theorem dX10_pathCosts_150 : decode cX10_pathCosts 150 = .ok (.if_icmp .ge 43, 3) := by decide +kernel
theorem dX10_pathCosts_153 : decode cX10_pathCosts 153 = .ok (.iload 5, 2) := by decide +kernel
theorem dX10_pathCosts_155 : decode cX10_pathCosts 155 = .ok (.aload_n 0, 1) := by decide +kernel
theorem dX10_pathCosts_156 : decode cX10_pathCosts 156 = .ok (.bipush 20, 2) := by decide +kernel
theorem dX10_pathCosts_158 : decode cX10_pathCosts 158 = .ok (.iload_n 1, 1) := by decide +kernel
theorem dX10_pathCosts_159 : decode cX10_pathCosts 159 = .ok (.imul, 1) := by decide +kernel
theorem dX10_pathCosts_160 : decode cX10_pathCosts 160 = .ok (.iload_n 3, 1) := by decide +kernel
theorem dX10_pathCosts_161 : decode cX10_pathCosts 161 = .ok (.iadd, 1) := by decide +kernel
theorem dX10_pathCosts_162 : decode cX10_pathCosts 162 = .ok (.bipush 20, 2) := by decide +kernel
theorem dX10_pathCosts_164 : decode cX10_pathCosts 164 = .ok (.iload_n 2, 1) := by decide +kernel
theorem dX10_pathCosts_165 : decode cX10_pathCosts 165 = .ok (.imul, 1) := by decide +kernel
theorem dX10_pathCosts_166 : decode cX10_pathCosts 166 = .ok (.iload 4, 2) := by decide +kernel
theorem dX10_pathCosts_168 : decode cX10_pathCosts 168 = .ok (.iadd, 1) := by decide +kernel
theorem dX10_pathCosts_169 : decode cX10_pathCosts 169 = .ok (.invokevirtual 226, 3) := by decide +kernel
theorem dX10_pathCosts_172 : decode cX10_pathCosts 172 = .ok (.aload_n 0, 1) := by decide +kernel
theorem dX10_pathCosts_173 : decode cX10_pathCosts 173 = .ok (.getfield 33, 3) := by decide +kernel
theorem dX10_pathCosts_176 : decode cX10_pathCosts 176 = .ok (.bipush 21, 2) := by decide +kernel
theorem dX10_pathCosts_178 : decode cX10_pathCosts 178 = .ok (.iload_n 3, 1) := by decide +kernel
theorem dX10_pathCosts_179 : decode cX10_pathCosts 179 = .ok (.imul, 1) := by decide +kernel
theorem dX10_pathCosts_180 : decode cX10_pathCosts 180 = .ok (.bipush 22, 2) := by decide +kernel
theorem dX10_pathCosts_182 : decode cX10_pathCosts 182 = .ok (.iadd, 1) := by decide +kernel
theorem dX10_pathCosts_183 : decode cX10_pathCosts 183 = .ok (.iload 4, 2) := by decide +kernel
theorem dX10_pathCosts_185 : decode cX10_pathCosts 185 = .ok (.iadd, 1) := by decide +kernel
theorem dX10_pathCosts_186 : decode cX10_pathCosts 186 = .ok (.iaload, 1) := by decide +kernel
theorem dX10_pathCosts_187 : decode cX10_pathCosts 187 = .ok (.iadd, 1) := by decide +kernel
theorem dX10_pathCosts_188 : decode cX10_pathCosts 188 = .ok (.invokestatic 223, 3) := by decide +kernel
theorem dX10_pathCosts_191 : decode cX10_pathCosts 191 = .ok (.istore 5, 2) := by decide +kernel
theorem dX10_pathCosts_193 : decode cX10_pathCosts 193 = .ok (.aload_n 0, 1) := by decide +kernel
theorem dX10_pathCosts_194 : decode cX10_pathCosts 194 = .ok (.getfield 33, 3) := by decide +kernel
theorem dX10_pathCosts_197 : decode cX10_pathCosts 197 = .ok (.bipush 21, 2) := by decide +kernel
theorem dX10_pathCosts_199 : decode cX10_pathCosts 199 = .ok (.iload_n 3, 1) := by decide +kernel
theorem dX10_pathCosts_200 : decode cX10_pathCosts 200 = .ok (.imul, 1) := by decide +kernel
theorem dX10_pathCosts_201 : decode cX10_pathCosts 201 = .ok (.iload 4, 2) := by decide +kernel
theorem dX10_pathCosts_203 : decode cX10_pathCosts 203 = .ok (.iadd, 1) := by decide +kernel
theorem dX10_pathCosts_204 : decode cX10_pathCosts 204 = .ok (.iload 5, 2) := by decide +kernel
theorem dX10_pathCosts_206 : decode cX10_pathCosts 206 = .ok (.iastore, 1) := by decide +kernel
theorem dX10_pathCosts_207 : decode cX10_pathCosts 207 = .ok (.iinc 4 (-1), 3) := by decide +kernel
theorem dX10_pathCosts_210 : decode cX10_pathCosts 210 = .ok (.goto (-191), 3) := by decide +kernel
theorem dX10_pathCosts_213 : decode cX10_pathCosts 213 = .ok (.iinc 3 (-1), 3) := by decide +kernel
theorem dX10_pathCosts_216 : decode cX10_pathCosts 216 = .ok (.goto (-209), 3) := by decide +kernel
theorem dX10_pathCosts_219 : decode cX10_pathCosts 219 = .ok (.aload_n 0, 1) := by decide +kernel
theorem dX10_pathCosts_220 : decode cX10_pathCosts 220 = .ok (.getfield 33, 3) := by decide +kernel
theorem dX10_pathCosts_223 : decode cX10_pathCosts 223 = .ok (.iconst 0, 1) := by decide +kernel
theorem dX10_pathCosts_224 : decode cX10_pathCosts 224 = .ok (.iaload, 1) := by decide +kernel
theorem dX10_pathCosts_225 : decode cX10_pathCosts 225 = .ok (.ireturn, 1) := by decide +kernel
theorem dX10_copiesRow_0 : decode cX10_copiesRow 0 = .ok (.aload_n 0, 1) := by decide +kernel
theorem dX10_copiesRow_1 : decode cX10_copiesRow 1 = .ok (.getfield 21, 3) := by decide +kernel
theorem dX10_copiesRow_4 : decode cX10_copiesRow 4 = .ok (.iload_n 2, 1) := by decide +kernel
theorem dX10_copiesRow_5 : decode cX10_copiesRow 5 = .ok (.aload_n 0, 1) := by decide +kernel
theorem dX10_copiesRow_6 : decode cX10_copiesRow 6 = .ok (.getfield 21, 3) := by decide +kernel
theorem dX10_copiesRow_9 : decode cX10_copiesRow 9 = .ok (.iload_n 1, 1) := by decide +kernel
theorem dX10_copiesRow_10 : decode cX10_copiesRow 10 = .ok (.iaload, 1) := by decide +kernel
theorem dX10_copiesRow_11 : decode cX10_copiesRow 11 = .ok (.iastore, 1) := by decide +kernel
theorem dX10_copiesRow_12 : decode cX10_copiesRow 12 = .ok (.aload_n 0, 1) := by decide +kernel
theorem dX10_copiesRow_13 : decode cX10_copiesRow 13 = .ok (.getfield 24, 3) := by decide +kernel
theorem dX10_copiesRow_16 : decode cX10_copiesRow 16 = .ok (.iload_n 2, 1) := by decide +kernel
theorem dX10_copiesRow_17 : decode cX10_copiesRow 17 = .ok (.aload_n 0, 1) := by decide +kernel
theorem dX10_copiesRow_18 : decode cX10_copiesRow 18 = .ok (.getfield 24, 3) := by decide +kernel
theorem dX10_copiesRow_21 : decode cX10_copiesRow 21 = .ok (.iload_n 1, 1) := by decide +kernel
theorem dX10_copiesRow_22 : decode cX10_copiesRow 22 = .ok (.iaload, 1) := by decide +kernel
theorem dX10_copiesRow_23 : decode cX10_copiesRow 23 = .ok (.iastore, 1) := by decide +kernel
theorem dX10_copiesRow_24 : decode cX10_copiesRow 24 = .ok (.iconst 0, 1) := by decide +kernel
theorem dX10_copiesRow_25 : decode cX10_copiesRow 25 = .ok (.istore_n 3, 1) := by decide +kernel
theorem dX10_copiesRow_26 : decode cX10_copiesRow 26 = .ok (.iload_n 3, 1) := by decide +kernel
theorem dX10_copiesRow_27 : decode cX10_copiesRow 27 = .ok (.bipush 20, 2) := by decide +kernel
theorem dX10_copiesRow_29 : decode cX10_copiesRow 29 = .ok (.if_icmp .ge 25, 3) := by decide +kernel
theorem dX10_copiesRow_32 : decode cX10_copiesRow 32 = .ok (.aload_n 0, 1) := by decide +kernel
theorem dX10_copiesRow_33 : decode cX10_copiesRow 33 = .ok (.bipush 20, 2) := by decide +kernel
theorem dX10_copiesRow_35 : decode cX10_copiesRow 35 = .ok (.iload_n 1, 1) := by decide +kernel
theorem dX10_copiesRow_36 : decode cX10_copiesRow 36 = .ok (.imul, 1) := by decide +kernel
theorem dX10_copiesRow_37 : decode cX10_copiesRow 37 = .ok (.iload_n 3, 1) := by decide +kernel
theorem dX10_copiesRow_38 : decode cX10_copiesRow 38 = .ok (.iadd, 1) := by decide +kernel
theorem dX10_copiesRow_39 : decode cX10_copiesRow 39 = .ok (.bipush 20, 2) := by decide +kernel
theorem dX10_copiesRow_41 : decode cX10_copiesRow 41 = .ok (.iload_n 2, 1) := by decide +kernel
theorem dX10_copiesRow_42 : decode cX10_copiesRow 42 = .ok (.imul, 1) := by decide +kernel
theorem dX10_copiesRow_43 : decode cX10_copiesRow 43 = .ok (.iload_n 3, 1) := by decide +kernel
theorem dX10_copiesRow_44 : decode cX10_copiesRow 44 = .ok (.iadd, 1) := by decide +kernel
theorem dX10_copiesRow_45 : decode cX10_copiesRow 45 = .ok (.invokevirtual 229, 3) := by decide +kernel
theorem dX10_copiesRow_48 : decode cX10_copiesRow 48 = .ok (.iinc 3 1, 3) := by decide +kernel
theorem dX10_copiesRow_51 : decode cX10_copiesRow 51 = .ok (.goto (-25), 3) := by decide +kernel
theorem dX10_copiesRow_54 : decode cX10_copiesRow 54 = .ok (.return_, 1) := by decide +kernel
theorem dX10_copiesCell_0 : decode cX10_copiesCell 0 = .ok (.aload_n 0, 1) := by decide +kernel
theorem dX10_copiesCell_1 : decode cX10_copiesCell 1 = .ok (.iload_n 2, 1) := by decide +kernel
theorem dX10_copiesCell_2 : decode cX10_copiesCell 2 = .ok (.aload_n 0, 1) := by decide +kernel
theorem dX10_copiesCell_3 : decode cX10_copiesCell 3 = .ok (.getfield 7, 3) := by decide +kernel
theorem dX10_copiesCell_6 : decode cX10_copiesCell 6 = .ok (.iload_n 1, 1) := by decide +kernel
theorem dX10_copiesCell_7 : decode cX10_copiesCell 7 = .ok (.iaload, 1) := by decide +kernel
theorem dX10_copiesCell_8 : decode cX10_copiesCell 8 = .ok (.aload_n 0, 1) := by decide +kernel
theorem dX10_copiesCell_9 : decode cX10_copiesCell 9 = .ok (.getfield 13, 3) := by decide +kernel
theorem dX10_copiesCell_12 : decode cX10_copiesCell 12 = .ok (.iload_n 1, 1) := by decide +kernel
theorem dX10_copiesCell_13 : decode cX10_copiesCell 13 = .ok (.laload, 1) := by decide +kernel
theorem dX10_copiesCell_14 : decode cX10_copiesCell 14 = .ok (.aload_n 0, 1) := by decide +kernel
theorem dX10_copiesCell_15 : decode cX10_copiesCell 15 = .ok (.getfield 17, 3) := by decide +kernel
theorem dX10_copiesCell_18 : decode cX10_copiesCell 18 = .ok (.iload_n 1, 1) := by decide +kernel
theorem dX10_copiesCell_19 : decode cX10_copiesCell 19 = .ok (.daload, 1) := by decide +kernel
theorem dX10_copiesCell_20 : decode cX10_copiesCell 20 = .ok (.invokevirtual 84, 3) := by decide +kernel
theorem dX10_copiesCell_23 : decode cX10_copiesCell 23 = .ok (.return_, 1) := by decide +kernel
theorem dX10_goesStep_0 : decode cX10_goesStep 0 = .ok (.aload_n 0, 1) := by decide +kernel
theorem dX10_goesStep_1 : decode cX10_goesStep 1 = .ok (.getfield 36, 3) := by decide +kernel
theorem dX10_goesStep_4 : decode cX10_goesStep 4 = .ok (.aload_n 0, 1) := by decide +kernel
theorem dX10_goesStep_5 : decode cX10_goesStep 5 = .ok (.getfield 233, 3) := by decide +kernel
theorem dX10_goesStep_8 : decode cX10_goesStep 8 = .ok (.iload_n 1, 1) := by decide +kernel
theorem dX10_goesStep_9 : decode cX10_goesStep 9 = .ok (.iastore, 1) := by decide +kernel
theorem dX10_goesStep_10 : decode cX10_goesStep 10 = .ok (.aload_n 0, 1) := by decide +kernel
theorem dX10_goesStep_11 : decode cX10_goesStep 11 = .ok (.getfield 39, 3) := by decide +kernel
theorem dX10_goesStep_14 : decode cX10_goesStep 14 = .ok (.aload_n 0, 1) := by decide +kernel
theorem dX10_goesStep_15 : decode cX10_goesStep 15 = .ok (.getfield 233, 3) := by decide +kernel
theorem dX10_goesStep_18 : decode cX10_goesStep 18 = .ok (.iload_n 2, 1) := by decide +kernel
theorem dX10_goesStep_19 : decode cX10_goesStep 19 = .ok (.iastore, 1) := by decide +kernel
theorem dX10_goesStep_20 : decode cX10_goesStep 20 = .ok (.aload_n 0, 1) := by decide +kernel
theorem dX10_goesStep_21 : decode cX10_goesStep 21 = .ok (.getfield 42, 3) := by decide +kernel
theorem dX10_goesStep_24 : decode cX10_goesStep 24 = .ok (.aload_n 0, 1) := by decide +kernel
theorem dX10_goesStep_25 : decode cX10_goesStep 25 = .ok (.getfield 233, 3) := by decide +kernel
theorem dX10_goesStep_28 : decode cX10_goesStep 28 = .ok (.iload_n 3, 1) := by decide +kernel
theorem dX10_goesStep_29 : decode cX10_goesStep 29 = .ok (.iastore, 1) := by decide +kernel
theorem dX10_goesStep_30 : decode cX10_goesStep 30 = .ok (.aload_n 0, 1) := by decide +kernel
theorem dX10_goesStep_31 : decode cX10_goesStep 31 = .ok (.getfield 45, 3) := by decide +kernel
theorem dX10_goesStep_34 : decode cX10_goesStep 34 = .ok (.aload_n 0, 1) := by decide +kernel
theorem dX10_goesStep_35 : decode cX10_goesStep 35 = .ok (.getfield 233, 3) := by decide +kernel
theorem dX10_goesStep_38 : decode cX10_goesStep 38 = .ok (.iload 4, 2) := by decide +kernel
theorem dX10_goesStep_40 : decode cX10_goesStep 40 = .ok (.iastore, 1) := by decide +kernel
theorem dX10_goesStep_41 : decode cX10_goesStep 41 = .ok (.aload_n 0, 1) := by decide +kernel
theorem dX10_goesStep_42 : decode cX10_goesStep 42 = .ok (.getfield 48, 3) := by decide +kernel
theorem dX10_goesStep_45 : decode cX10_goesStep 45 = .ok (.aload_n 0, 1) := by decide +kernel
theorem dX10_goesStep_46 : decode cX10_goesStep 46 = .ok (.getfield 233, 3) := by decide +kernel
theorem dX10_goesStep_49 : decode cX10_goesStep 49 = .ok (.iload 5, 2) := by decide +kernel
theorem dX10_goesStep_51 : decode cX10_goesStep 51 = .ok (.bastore, 1) := by decide +kernel
theorem dX10_goesStep_52 : decode cX10_goesStep 52 = .ok (.aload_n 0, 1) := by decide +kernel
theorem dX10_goesStep_53 : decode cX10_goesStep 53 = .ok (.dup, 1) := by decide +kernel
theorem dX10_goesStep_54 : decode cX10_goesStep 54 = .ok (.getfield 233, 3) := by decide +kernel
theorem dX10_goesStep_57 : decode cX10_goesStep 57 = .ok (.iconst 1, 1) := by decide +kernel
theorem dX10_goesStep_58 : decode cX10_goesStep 58 = .ok (.iadd, 1) := by decide +kernel
theorem dX10_goesStep_59 : decode cX10_goesStep 59 = .ok (.putfield 233, 3) := by decide +kernel
theorem dX10_goesStep_62 : decode cX10_goesStep 62 = .ok (.return_, 1) := by decide +kernel
theorem dX10_findSteps_0 : decode cX10_findSteps 0 = .ok (.aload_n 0, 1) := by decide +kernel
theorem dX10_findSteps_1 : decode cX10_findSteps 1 = .ok (.iconst 0, 1) := by decide +kernel
theorem dX10_findSteps_2 : decode cX10_findSteps 2 = .ok (.putfield 233, 3) := by decide +kernel
theorem dX10_findSteps_5 : decode cX10_findSteps 5 = .ok (.iconst 0, 1) := by decide +kernel
theorem dX10_findSteps_6 : decode cX10_findSteps 6 = .ok (.istore_n 1, 1) := by decide +kernel
theorem dX10_findSteps_7 : decode cX10_findSteps 7 = .ok (.iconst 0, 1) := by decide +kernel
theorem dX10_findSteps_8 : decode cX10_findSteps 8 = .ok (.istore_n 2, 1) := by decide +kernel
theorem dX10_findSteps_9 : decode cX10_findSteps 9 = .ok (.iload_n 1, 1) := by decide +kernel
theorem dX10_findSteps_10 : decode cX10_findSteps 10 = .ok (.aload_n 0, 1) := by decide +kernel
theorem dX10_findSteps_11 : decode cX10_findSteps 11 = .ok (.getfield 24, 3) := by decide +kernel
theorem dX10_findSteps_14 : decode cX10_findSteps 14 = .ok (.bipush 24, 2) := by decide +kernel
theorem dX10_findSteps_16 : decode cX10_findSteps 16 = .ok (.iaload, 1) := by decide +kernel
theorem dX10_findSteps_17 : decode cX10_findSteps 17 = .ok (.if_icmp .lt 14, 3) := by decide +kernel
theorem dX10_findSteps_20 : decode cX10_findSteps 20 = .ok (.iload_n 2, 1) := by decide +kernel
theorem dX10_findSteps_21 : decode cX10_findSteps 21 = .ok (.aload_n 0, 1) := by decide +kernel
theorem dX10_findSteps_22 : decode cX10_findSteps 22 = .ok (.getfield 24, 3) := by decide +kernel
theorem dX10_findSteps_25 : decode cX10_findSteps 25 = .ok (.bipush 25, 2) := by decide +kernel
theorem dX10_findSteps_27 : decode cX10_findSteps 27 = .ok (.iaload, 1) := by decide +kernel
theorem dX10_findSteps_28 : decode cX10_findSteps 28 = .ok (.if_icmp .ge 196, 3) := by decide +kernel
theorem dX10_findSteps_31 : decode cX10_findSteps 31 = .ok (.aload_n 0, 1) := by decide +kernel
theorem dX10_findSteps_32 : decode cX10_findSteps 32 = .ok (.getfield 33, 3) := by decide +kernel
theorem dX10_findSteps_35 : decode cX10_findSteps 35 = .ok (.bipush 21, 2) := by decide +kernel
theorem dX10_findSteps_37 : decode cX10_findSteps 37 = .ok (.iload_n 1, 1) := by decide +kernel
theorem dX10_findSteps_38 : decode cX10_findSteps 38 = .ok (.imul, 1) := by decide +kernel
theorem dX10_findSteps_39 : decode cX10_findSteps 39 = .ok (.iload_n 2, 1) := by decide +kernel
theorem dX10_findSteps_40 : decode cX10_findSteps 40 = .ok (.iadd, 1) := by decide +kernel
theorem dX10_findSteps_41 : decode cX10_findSteps 41 = .ok (.iaload, 1) := by decide +kernel
theorem dX10_findSteps_42 : decode cX10_findSteps 42 = .ok (.istore_n 3, 1) := by decide +kernel
theorem dX10_findSteps_43 : decode cX10_findSteps 43 = .ok (.iload_n 1, 1) := by decide +kernel
theorem dX10_findSteps_44 : decode cX10_findSteps 44 = .ok (.aload_n 0, 1) := by decide +kernel
theorem dX10_findSteps_45 : decode cX10_findSteps 45 = .ok (.getfield 24, 3) := by decide +kernel
theorem dX10_findSteps_48 : decode cX10_findSteps 48 = .ok (.bipush 24, 2) := by decide +kernel
theorem dX10_findSteps_50 : decode cX10_findSteps 50 = .ok (.iaload, 1) := by decide +kernel
theorem dX10_findSteps_51 : decode cX10_findSteps 51 = .ok (.if_icmp .ge 31, 3) := by decide +kernel
theorem dX10_findSteps_54 : decode cX10_findSteps 54 = .ok (.iload_n 2, 1) := by decide +kernel
theorem dX10_findSteps_55 : decode cX10_findSteps 55 = .ok (.aload_n 0, 1) := by decide +kernel
theorem dX10_findSteps_56 : decode cX10_findSteps 56 = .ok (.getfield 24, 3) := by decide +kernel
theorem dX10_findSteps_59 : decode cX10_findSteps 59 = .ok (.bipush 25, 2) := by decide +kernel
theorem dX10_findSteps_61 : decode cX10_findSteps 61 = .ok (.iaload, 1) := by decide +kernel
theorem dX10_findSteps_62 : decode cX10_findSteps 62 = .ok (.if_icmp .ge 20, 3) := by decide +kernel
theorem dX10_findSteps_65 : decode cX10_findSteps 65 = .ok (.aload_n 0, 1) := by decide +kernel
theorem dX10_findSteps_66 : decode cX10_findSteps 66 = .ok (.sipush 480, 3) := by decide +kernel
theorem dX10_findSteps_69 : decode cX10_findSteps 69 = .ok (.iload_n 1, 1) := by decide +kernel
theorem dX10_findSteps_70 : decode cX10_findSteps 70 = .ok (.iadd, 1) := by decide +kernel
theorem dX10_findSteps_71 : decode cX10_findSteps 71 = .ok (.sipush 500, 3) := by decide +kernel
theorem dX10_findSteps_74 : decode cX10_findSteps 74 = .ok (.iload_n 2, 1) := by decide +kernel
theorem dX10_findSteps_75 : decode cX10_findSteps 75 = .ok (.iadd, 1) := by decide +kernel
theorem dX10_findSteps_76 : decode cX10_findSteps 76 = .ok (.invokevirtual 226, 3) := by decide +kernel
theorem dX10_findSteps_79 : decode cX10_findSteps 79 = .ok (.goto 5, 3) := by decide +kernel
theorem dX10_findSteps_82 : decode cX10_findSteps 82 = .ok (.bipush (-4), 2) := by decide +kernel
theorem dX10_findSteps_84 : decode cX10_findSteps 84 = .ok (.istore 4, 2) := by decide +kernel
theorem dX10_findSteps_86 : decode cX10_findSteps 86 = .ok (.iload 4, 2) := by decide +kernel
theorem dX10_findSteps_88 : decode cX10_findSteps 88 = .ok (.ifCond .lt 43, 3) := by decide +kernel
theorem dX10_findSteps_91 : decode cX10_findSteps 91 = .ok (.iload 4, 2) := by decide +kernel
theorem dX10_findSteps_93 : decode cX10_findSteps 93 = .ok (.aload_n 0, 1) := by decide +kernel
theorem dX10_findSteps_94 : decode cX10_findSteps 94 = .ok (.getfield 33, 3) := by decide +kernel
theorem dX10_findSteps_97 : decode cX10_findSteps 97 = .ok (.bipush 21, 2) := by decide +kernel
theorem dX10_findSteps_99 : decode cX10_findSteps 99 = .ok (.iload_n 1, 1) := by decide +kernel
theorem dX10_findSteps_100 : decode cX10_findSteps 100 = .ok (.imul, 1) := by decide +kernel
theorem dX10_findSteps_101 : decode cX10_findSteps 101 = .ok (.bipush 22, 2) := by decide +kernel
theorem dX10_findSteps_103 : decode cX10_findSteps 103 = .ok (.iadd, 1) := by decide +kernel
theorem dX10_findSteps_104 : decode cX10_findSteps 104 = .ok (.iload_n 2, 1) := by decide +kernel
theorem dX10_findSteps_105 : decode cX10_findSteps 105 = .ok (.iadd, 1) := by decide +kernel
theorem dX10_findSteps_106 : decode cX10_findSteps 106 = .ok (.iaload, 1) := by decide +kernel
theorem dX10_findSteps_107 : decode cX10_findSteps 107 = .ok (.iadd, 1) := by decide +kernel
theorem dX10_findSteps_108 : decode cX10_findSteps 108 = .ok (.iload_n 3, 1) := by decide +kernel
theorem dX10_findSteps_109 : decode cX10_findSteps 109 = .ok (.if_icmp .ne 22, 3) := by decide +kernel
theorem dX10_findSteps_112 : decode cX10_findSteps 112 = .ok (.aload_n 0, 1) := by decide +kernel
theorem dX10_findSteps_113 : decode cX10_findSteps 113 = .ok (.iconst 0, 1) := by decide +kernel
theorem dX10_findSteps_114 : decode cX10_findSteps 114 = .ok (.iload_n 1, 1) := by decide +kernel
theorem dX10_findSteps_115 : decode cX10_findSteps 115 = .ok (.iload_n 2, 1) := by decide +kernel
theorem dX10_findSteps_116 : decode cX10_findSteps 116 = .ok (.iload 4, 2) := by decide +kernel
theorem dX10_findSteps_118 : decode cX10_findSteps 118 = .ok (.iconst 0, 1) := by decide +kernel
theorem dX10_findSteps_119 : decode cX10_findSteps 119 = .ok (.invokevirtual 236, 3) := by decide +kernel
theorem dX10_findSteps_122 : decode cX10_findSteps 122 = .ok (.iinc 1 1, 3) := by decide +kernel
theorem dX10_findSteps_125 : decode cX10_findSteps 125 = .ok (.iinc 2 1, 3) := by decide +kernel
theorem dX10_findSteps_128 : decode cX10_findSteps 128 = .ok (.goto 93, 3) := by decide +kernel
theorem dX10_findSteps_131 : decode cX10_findSteps 131 = .ok (.iload_n 1, 1) := by decide +kernel
theorem dX10_findSteps_132 : decode cX10_findSteps 132 = .ok (.aload_n 0, 1) := by decide +kernel
theorem dX10_findSteps_133 : decode cX10_findSteps 133 = .ok (.getfield 24, 3) := by decide +kernel
theorem dX10_findSteps_136 : decode cX10_findSteps 136 = .ok (.bipush 24, 2) := by decide +kernel
theorem dX10_findSteps_138 : decode cX10_findSteps 138 = .ok (.iaload, 1) := by decide +kernel
theorem dX10_findSteps_139 : decode cX10_findSteps 139 = .ok (.if_icmp .ge 57, 3) := by decide +kernel
theorem dX10_findSteps_142 : decode cX10_findSteps 142 = .ok (.aload_n 0, 1) := by decide +kernel
theorem dX10_findSteps_143 : decode cX10_findSteps 143 = .ok (.bipush 24, 2) := by decide +kernel
theorem dX10_findSteps_145 : decode cX10_findSteps 145 = .ok (.iload_n 1, 1) := by decide +kernel
theorem dX10_findSteps_146 : decode cX10_findSteps 146 = .ok (.invokevirtual 220, 3) := by decide +kernel
theorem dX10_findSteps_149 : decode cX10_findSteps 149 = .ok (.aload_n 0, 1) := by decide +kernel
theorem dX10_findSteps_150 : decode cX10_findSteps 150 = .ok (.getfield 33, 3) := by decide +kernel
theorem dX10_findSteps_153 : decode cX10_findSteps 153 = .ok (.bipush 21, 2) := by decide +kernel
theorem dX10_findSteps_155 : decode cX10_findSteps 155 = .ok (.iload_n 1, 1) := by decide +kernel
theorem dX10_findSteps_156 : decode cX10_findSteps 156 = .ok (.imul, 1) := by decide +kernel
theorem dX10_findSteps_157 : decode cX10_findSteps 157 = .ok (.bipush 21, 2) := by decide +kernel
theorem dX10_findSteps_159 : decode cX10_findSteps 159 = .ok (.iadd, 1) := by decide +kernel
theorem dX10_findSteps_160 : decode cX10_findSteps 160 = .ok (.iload_n 2, 1) := by decide +kernel
theorem dX10_findSteps_161 : decode cX10_findSteps 161 = .ok (.iadd, 1) := by decide +kernel
theorem dX10_findSteps_162 : decode cX10_findSteps 162 = .ok (.iaload, 1) := by decide +kernel
theorem dX10_findSteps_163 : decode cX10_findSteps 163 = .ok (.iadd, 1) := by decide +kernel
theorem dX10_findSteps_164 : decode cX10_findSteps 164 = .ok (.iload_n 3, 1) := by decide +kernel
theorem dX10_findSteps_165 : decode cX10_findSteps 165 = .ok (.if_icmp .ne 31, 3) := by decide +kernel
theorem dX10_findSteps_168 : decode cX10_findSteps 168 = .ok (.aload_n 0, 1) := by decide +kernel
theorem dX10_findSteps_169 : decode cX10_findSteps 169 = .ok (.iconst 1, 1) := by decide +kernel
theorem dX10_findSteps_170 : decode cX10_findSteps 170 = .ok (.iload_n 1, 1) := by decide +kernel
theorem dX10_findSteps_171 : decode cX10_findSteps 171 = .ok (.bipush (-4), 2) := by decide +kernel
theorem dX10_findSteps_173 : decode cX10_findSteps 173 = .ok (.aload_n 0, 1) := by decide +kernel
theorem dX10_findSteps_174 : decode cX10_findSteps 174 = .ok (.bipush 24, 2) := by decide +kernel
theorem dX10_findSteps_176 : decode cX10_findSteps 176 = .ok (.iload_n 1, 1) := by decide +kernel
theorem dX10_findSteps_177 : decode cX10_findSteps 177 = .ok (.invokevirtual 220, 3) := by decide +kernel
theorem dX10_findSteps_180 : decode cX10_findSteps 180 = .ok (.aload_n 0, 1) := by decide +kernel
theorem dX10_findSteps_181 : decode cX10_findSteps 181 = .ok (.bipush 24, 2) := by decide +kernel
theorem dX10_findSteps_183 : decode cX10_findSteps 183 = .ok (.iload_n 1, 1) := by decide +kernel
theorem dX10_findSteps_184 : decode cX10_findSteps 184 = .ok (.invokevirtual 216, 3) := by decide +kernel
theorem dX10_findSteps_187 : decode cX10_findSteps 187 = .ok (.invokevirtual 236, 3) := by decide +kernel
theorem dX10_findSteps_190 : decode cX10_findSteps 190 = .ok (.iinc 1 1, 3) := by decide +kernel
theorem dX10_findSteps_193 : decode cX10_findSteps 193 = .ok (.goto 28, 3) := by decide +kernel
theorem dX10_findSteps_196 : decode cX10_findSteps 196 = .ok (.aload_n 0, 1) := by decide +kernel
theorem dX10_findSteps_197 : decode cX10_findSteps 197 = .ok (.iconst 2, 1) := by decide +kernel
theorem dX10_findSteps_198 : decode cX10_findSteps 198 = .ok (.bipush (-4), 2) := by decide +kernel
theorem dX10_findSteps_200 : decode cX10_findSteps 200 = .ok (.iload_n 2, 1) := by decide +kernel
theorem dX10_findSteps_201 : decode cX10_findSteps 201 = .ok (.aload_n 0, 1) := by decide +kernel
theorem dX10_findSteps_202 : decode cX10_findSteps 202 = .ok (.bipush 25, 2) := by decide +kernel
theorem dX10_findSteps_204 : decode cX10_findSteps 204 = .ok (.iload_n 2, 1) := by decide +kernel
theorem dX10_findSteps_205 : decode cX10_findSteps 205 = .ok (.invokevirtual 220, 3) := by decide +kernel
theorem dX10_findSteps_208 : decode cX10_findSteps 208 = .ok (.aload_n 0, 1) := by decide +kernel
theorem dX10_findSteps_209 : decode cX10_findSteps 209 = .ok (.bipush 25, 2) := by decide +kernel
theorem dX10_findSteps_211 : decode cX10_findSteps 211 = .ok (.iload_n 2, 1) := by decide +kernel
theorem dX10_findSteps_212 : decode cX10_findSteps 212 = .ok (.invokevirtual 216, 3) := by decide +kernel
theorem dX10_findSteps_215 : decode cX10_findSteps 215 = .ok (.invokevirtual 236, 3) := by decide +kernel
theorem dX10_findSteps_218 : decode cX10_findSteps 218 = .ok (.iinc 2 1, 3) := by decide +kernel
theorem dX10_findSteps_221 : decode cX10_findSteps 221 = .ok (.goto (-212), 3) := by decide +kernel
theorem dX10_findSteps_224 : decode cX10_findSteps 224 = .ok (.return_, 1) := by decide +kernel
theorem dX10_rowsFault_0 : decode cX10_rowsFault 0 = .ok (.aload_n 0, 1) := by decide +kernel
theorem dX10_rowsFault_1 : decode cX10_rowsFault 1 = .ok (.iload_n 1, 1) := by decide +kernel
theorem dX10_rowsFault_2 : decode cX10_rowsFault 2 = .ok (.invokevirtual 124, 3) := by decide +kernel
theorem dX10_rowsFault_5 : decode cX10_rowsFault 5 = .ok (.ifCond .le 11, 3) := by decide +kernel
theorem dX10_rowsFault_8 : decode cX10_rowsFault 8 = .ok (.aload_n 0, 1) := by decide +kernel
theorem dX10_rowsFault_9 : decode cX10_rowsFault 9 = .ok (.iload_n 1, 1) := by decide +kernel
theorem dX10_rowsFault_10 : decode cX10_rowsFault 10 = .ok (.invokevirtual 124, 3) := by decide +kernel
theorem dX10_rowsFault_13 : decode cX10_rowsFault 13 = .ok (.goto 8, 3) := by decide +kernel
theorem dX10_rowsFault_16 : decode cX10_rowsFault 16 = .ok (.aload_n 0, 1) := by decide +kernel
theorem dX10_rowsFault_17 : decode cX10_rowsFault 17 = .ok (.iload_n 2, 1) := by decide +kernel
theorem dX10_rowsFault_18 : decode cX10_rowsFault 18 = .ok (.invokevirtual 124, 3) := by decide +kernel
theorem dX10_rowsFault_21 : decode cX10_rowsFault 21 = .ok (.ireturn, 1) := by decide +kernel
theorem dX10_compare_0 : decode cX10_compare 0 = .ok (.iload_n 1, 1) := by decide +kernel
theorem dX10_compare_1 : decode cX10_compare 1 = .ok (.invokestatic 141, 3) := by decide +kernel
theorem dX10_compare_4 : decode cX10_compare 4 = .ok (.ifCond .eq 10, 3) := by decide +kernel
theorem dX10_compare_7 : decode cX10_compare 7 = .ok (.iload_n 2, 1) := by decide +kernel
theorem dX10_compare_8 : decode cX10_compare 8 = .ok (.invokestatic 141, 3) := by decide +kernel
theorem dX10_compare_11 : decode cX10_compare 11 = .ok (.ifCond .ne 5, 3) := by decide +kernel
theorem dX10_compare_14 : decode cX10_compare 14 = .ok (.iconst (-1), 1) := by decide +kernel
theorem dX10_compare_15 : decode cX10_compare 15 = .ok (.ireturn, 1) := by decide +kernel
theorem dX10_compare_16 : decode cX10_compare 16 = .ok (.aload_n 0, 1) := by decide +kernel
theorem dX10_compare_17 : decode cX10_compare 17 = .ok (.iload_n 1, 1) := by decide +kernel
theorem dX10_compare_18 : decode cX10_compare 18 = .ok (.iload_n 2, 1) := by decide +kernel
theorem dX10_compare_19 : decode cX10_compare 19 = .ok (.invokevirtual 240, 3) := by decide +kernel
theorem dX10_compare_22 : decode cX10_compare 22 = .ok (.ifCond .le 13, 3) := by decide +kernel
theorem dX10_compare_25 : decode cX10_compare 25 = .ok (.bipush (-10), 2) := by decide +kernel
theorem dX10_compare_27 : decode cX10_compare 27 = .ok (.aload_n 0, 1) := by decide +kernel
theorem dX10_compare_28 : decode cX10_compare 28 = .ok (.iload_n 1, 1) := by decide +kernel
theorem dX10_compare_29 : decode cX10_compare 29 = .ok (.iload_n 2, 1) := by decide +kernel
theorem dX10_compare_30 : decode cX10_compare 30 = .ok (.invokevirtual 240, 3) := by decide +kernel
theorem dX10_compare_33 : decode cX10_compare 33 = .ok (.isub, 1) := by decide +kernel
theorem dX10_compare_34 : decode cX10_compare 34 = .ok (.ireturn, 1) := by decide +kernel
theorem dX10_compare_35 : decode cX10_compare 35 = .ok (.aload_n 0, 1) := by decide +kernel
theorem dX10_compare_36 : decode cX10_compare 36 = .ok (.aload_n 0, 1) := by decide +kernel
theorem dX10_compare_37 : decode cX10_compare 37 = .ok (.getfield 27, 3) := by decide +kernel
theorem dX10_compare_40 : decode cX10_compare 40 = .ok (.iload_n 1, 1) := by decide +kernel
theorem dX10_compare_41 : decode cX10_compare 41 = .ok (.iaload, 1) := by decide +kernel
theorem dX10_compare_42 : decode cX10_compare 42 = .ok (.bipush 24, 2) := by decide +kernel
theorem dX10_compare_44 : decode cX10_compare 44 = .ok (.invokevirtual 243, 3) := by decide +kernel
theorem dX10_compare_47 : decode cX10_compare 47 = .ok (.aload_n 0, 1) := by decide +kernel
theorem dX10_compare_48 : decode cX10_compare 48 = .ok (.aload_n 0, 1) := by decide +kernel
theorem dX10_compare_49 : decode cX10_compare 49 = .ok (.getfield 27, 3) := by decide +kernel
theorem dX10_compare_52 : decode cX10_compare 52 = .ok (.iload_n 2, 1) := by decide +kernel
theorem dX10_compare_53 : decode cX10_compare 53 = .ok (.iaload, 1) := by decide +kernel
theorem dX10_compare_54 : decode cX10_compare 54 = .ok (.bipush 25, 2) := by decide +kernel
theorem dX10_compare_56 : decode cX10_compare 56 = .ok (.invokevirtual 243, 3) := by decide +kernel
theorem dX10_compare_59 : decode cX10_compare 59 = .ok (.aload_n 0, 1) := by decide +kernel
theorem dX10_compare_60 : decode cX10_compare 60 = .ok (.aload_n 0, 1) := by decide +kernel
theorem dX10_compare_61 : decode cX10_compare 61 = .ok (.bipush 24, 2) := by decide +kernel
theorem dX10_compare_63 : decode cX10_compare 63 = .ok (.bipush 25, 2) := by decide +kernel
theorem dX10_compare_65 : decode cX10_compare 65 = .ok (.invokevirtual 246, 3) := by decide +kernel
theorem dX10_compare_68 : decode cX10_compare 68 = .ok (.putfield 249, 3) := by decide +kernel
theorem dX10_compare_71 : decode cX10_compare 71 = .ok (.aload_n 0, 1) := by decide +kernel
theorem dX10_compare_72 : decode cX10_compare 72 = .ok (.invokevirtual 252, 3) := by decide +kernel
theorem dX10_compare_75 : decode cX10_compare 75 = .ok (.aload_n 0, 1) := by decide +kernel
theorem dX10_compare_76 : decode cX10_compare 76 = .ok (.invokevirtual 255, 3) := by decide +kernel
theorem dX10_compare_79 : decode cX10_compare 79 = .ok (.aload_n 0, 1) := by decide +kernel
theorem dX10_compare_80 : decode cX10_compare 80 = .ok (.iconst 1, 1) := by decide +kernel
theorem dX10_compare_81 : decode cX10_compare 81 = .ok (.putfield 258, 3) := by decide +kernel
theorem dX10_compare_84 : decode cX10_compare 84 = .ok (.aload_n 0, 1) := by decide +kernel
theorem dX10_compare_85 : decode cX10_compare 85 = .ok (.getfield 249, 3) := by decide +kernel
theorem dX10_compare_88 : decode cX10_compare 88 = .ok (.ireturn, 1) := by decide +kernel
theorem dX10_besides_0 : decode cX10_besides 0 = .ok (.iconst 0, 1) := by decide +kernel
theorem dX10_besides_1 : decode cX10_besides 1 = .ok (.istore_n 2, 1) := by decide +kernel
theorem dX10_besides_2 : decode cX10_besides 2 = .ok (.iconst 0, 1) := by decide +kernel
theorem dX10_besides_3 : decode cX10_besides 3 = .ok (.istore_n 3, 1) := by decide +kernel
theorem dX10_besides_4 : decode cX10_besides 4 = .ok (.iload_n 3, 1) := by decide +kernel
theorem dX10_besides_5 : decode cX10_besides 5 = .ok (.aload_n 0, 1) := by decide +kernel
theorem dX10_besides_6 : decode cX10_besides 6 = .ok (.getfield 233, 3) := by decide +kernel
theorem dX10_besides_9 : decode cX10_besides 9 = .ok (.if_icmp .ge 38, 3) := by decide +kernel
theorem dX10_besides_12 : decode cX10_besides 12 = .ok (.iload_n 2, 1) := by decide +kernel
theorem dX10_besides_13 : decode cX10_besides 13 = .ok (.aload_n 0, 1) := by decide +kernel
theorem dX10_besides_14 : decode cX10_besides 14 = .ok (.getfield 36, 3) := by decide +kernel
theorem dX10_besides_17 : decode cX10_besides 17 = .ok (.iload_n 3, 1) := by decide +kernel
theorem dX10_besides_18 : decode cX10_besides 18 = .ok (.iaload, 1) := by decide +kernel
theorem dX10_besides_19 : decode cX10_besides 19 = .ok (.ifCond .ne 16, 3) := by decide +kernel
theorem dX10_besides_22 : decode cX10_besides 22 = .ok (.aload_n 0, 1) := by decide +kernel
theorem dX10_besides_23 : decode cX10_besides 23 = .ok (.iload_n 3, 1) := by decide +kernel
theorem dX10_besides_24 : decode cX10_besides 24 = .ok (.invokevirtual 262, 3) := by decide +kernel
theorem dX10_besides_27 : decode cX10_besides 27 = .ok (.iload_n 1, 1) := by decide +kernel
theorem dX10_besides_28 : decode cX10_besides 28 = .ok (.if_icmp .ne 7, 3) := by decide +kernel
theorem dX10_besides_31 : decode cX10_besides 31 = .ok (.iconst 1, 1) := by decide +kernel
theorem dX10_besides_32 : decode cX10_besides 32 = .ok (.goto 4, 3) := by decide +kernel
theorem dX10_besides_35 : decode cX10_besides 35 = .ok (.iconst 0, 1) := by decide +kernel
theorem dX10_besides_36 : decode cX10_besides 36 = .ok (.invokestatic 200, 3) := by decide +kernel
theorem dX10_besides_39 : decode cX10_besides 39 = .ok (.iadd, 1) := by decide +kernel
theorem dX10_besides_40 : decode cX10_besides 40 = .ok (.istore_n 2, 1) := by decide +kernel
theorem dX10_besides_41 : decode cX10_besides 41 = .ok (.iinc 3 1, 3) := by decide +kernel
theorem dX10_besides_44 : decode cX10_besides 44 = .ok (.goto (-40), 3) := by decide +kernel
theorem dX10_besides_47 : decode cX10_besides 47 = .ok (.iload_n 2, 1) := by decide +kernel
theorem dX10_besides_48 : decode cX10_besides 48 = .ok (.ireturn, 1) := by decide +kernel
theorem dX10_stepLikeness_0 : decode cX10_stepLikeness 0 = .ok (.aload_n 0, 1) := by decide +kernel
theorem dX10_stepLikeness_1 : decode cX10_stepLikeness 1 = .ok (.sipush 480, 3) := by decide +kernel
theorem dX10_stepLikeness_4 : decode cX10_stepLikeness 4 = .ok (.aload_n 0, 1) := by decide +kernel
theorem dX10_stepLikeness_5 : decode cX10_stepLikeness 5 = .ok (.getfield 39, 3) := by decide +kernel
theorem dX10_stepLikeness_8 : decode cX10_stepLikeness 8 = .ok (.iload_n 1, 1) := by decide +kernel
theorem dX10_stepLikeness_9 : decode cX10_stepLikeness 9 = .ok (.iaload, 1) := by decide +kernel
theorem dX10_stepLikeness_10 : decode cX10_stepLikeness 10 = .ok (.iadd, 1) := by decide +kernel
theorem dX10_stepLikeness_11 : decode cX10_stepLikeness 11 = .ok (.sipush 500, 3) := by decide +kernel
theorem dX10_stepLikeness_14 : decode cX10_stepLikeness 14 = .ok (.aload_n 0, 1) := by decide +kernel
theorem dX10_stepLikeness_15 : decode cX10_stepLikeness 15 = .ok (.getfield 42, 3) := by decide +kernel
theorem dX10_stepLikeness_18 : decode cX10_stepLikeness 18 = .ok (.iload_n 1, 1) := by decide +kernel
theorem dX10_stepLikeness_19 : decode cX10_stepLikeness 19 = .ok (.iaload, 1) := by decide +kernel
theorem dX10_stepLikeness_20 : decode cX10_stepLikeness 20 = .ok (.iadd, 1) := by decide +kernel
theorem dX10_stepLikeness_21 : decode cX10_stepLikeness 21 = .ok (.invokevirtual 112, 3) := by decide +kernel
theorem dX10_stepLikeness_24 : decode cX10_stepLikeness 24 = .ok (.ifCond .eq 7, 3) := by decide +kernel
theorem dX10_stepLikeness_27 : decode cX10_stepLikeness 27 = .ok (.iconst 0, 1) := by decide +kernel
theorem dX10_stepLikeness_28 : decode cX10_stepLikeness 28 = .ok (.goto 17, 3) := by decide +kernel
theorem dX10_stepLikeness_31 : decode cX10_stepLikeness 31 = .ok (.aload_n 0, 1) := by decide +kernel
theorem dX10_stepLikeness_32 : decode cX10_stepLikeness 32 = .ok (.getfield 52, 3) := by decide +kernel
theorem dX10_stepLikeness_35 : decode cX10_stepLikeness 35 = .ok (.iload_n 1, 1) := by decide +kernel
theorem dX10_stepLikeness_36 : decode cX10_stepLikeness 36 = .ok (.baload, 1) := by decide +kernel
theorem dX10_stepLikeness_37 : decode cX10_stepLikeness 37 = .ok (.ifCond .eq 7, 3) := by decide +kernel
theorem dX10_stepLikeness_40 : decode cX10_stepLikeness 40 = .ok (.iconst 1, 1) := by decide +kernel
theorem dX10_stepLikeness_41 : decode cX10_stepLikeness 41 = .ok (.goto 4, 3) := by decide +kernel
theorem dX10_stepLikeness_44 : decode cX10_stepLikeness 44 = .ok (.iconst 2, 1) := by decide +kernel
theorem dX10_stepLikeness_45 : decode cX10_stepLikeness 45 = .ok (.ireturn, 1) := by decide +kernel
theorem dX10_seesNear_0 : decode cX10_seesNear 0 = .ok (.iconst 0, 1) := by decide +kernel
theorem dX10_seesNear_1 : decode cX10_seesNear 1 = .ok (.istore_n 1, 1) := by decide +kernel
theorem dX10_seesNear_2 : decode cX10_seesNear 2 = .ok (.iload_n 1, 1) := by decide +kernel
theorem dX10_seesNear_3 : decode cX10_seesNear 3 = .ok (.aload_n 0, 1) := by decide +kernel
theorem dX10_seesNear_4 : decode cX10_seesNear 4 = .ok (.getfield 233, 3) := by decide +kernel
theorem dX10_seesNear_7 : decode cX10_seesNear 7 = .ok (.if_icmp .ge 56, 3) := by decide +kernel
theorem dX10_seesNear_10 : decode cX10_seesNear 10 = .ok (.aload_n 0, 1) := by decide +kernel
theorem dX10_seesNear_11 : decode cX10_seesNear 11 = .ok (.getfield 52, 3) := by decide +kernel
theorem dX10_seesNear_14 : decode cX10_seesNear 14 = .ok (.iload_n 1, 1) := by decide +kernel
theorem dX10_seesNear_15 : decode cX10_seesNear 15 = .ok (.aload_n 0, 1) := by decide +kernel
theorem dX10_seesNear_16 : decode cX10_seesNear 16 = .ok (.getfield 36, 3) := by decide +kernel
theorem dX10_seesNear_19 : decode cX10_seesNear 19 = .ok (.iload_n 1, 1) := by decide +kernel
theorem dX10_seesNear_20 : decode cX10_seesNear 20 = .ok (.iaload, 1) := by decide +kernel
theorem dX10_seesNear_21 : decode cX10_seesNear 21 = .ok (.ifCond .ne 34, 3) := by decide +kernel
theorem dX10_seesNear_24 : decode cX10_seesNear 24 = .ok (.aload_n 0, 1) := by decide +kernel
theorem dX10_seesNear_25 : decode cX10_seesNear 25 = .ok (.sipush 480, 3) := by decide +kernel
theorem dX10_seesNear_28 : decode cX10_seesNear 28 = .ok (.aload_n 0, 1) := by decide +kernel
theorem dX10_seesNear_29 : decode cX10_seesNear 29 = .ok (.getfield 39, 3) := by decide +kernel
theorem dX10_seesNear_32 : decode cX10_seesNear 32 = .ok (.iload_n 1, 1) := by decide +kernel
theorem dX10_seesNear_33 : decode cX10_seesNear 33 = .ok (.iaload, 1) := by decide +kernel
theorem dX10_seesNear_34 : decode cX10_seesNear 34 = .ok (.iadd, 1) := by decide +kernel
theorem dX10_seesNear_35 : decode cX10_seesNear 35 = .ok (.sipush 500, 3) := by decide +kernel
theorem dX10_seesNear_38 : decode cX10_seesNear 38 = .ok (.aload_n 0, 1) := by decide +kernel
theorem dX10_seesNear_39 : decode cX10_seesNear 39 = .ok (.getfield 42, 3) := by decide +kernel
theorem dX10_seesNear_42 : decode cX10_seesNear 42 = .ok (.iload_n 1, 1) := by decide +kernel
theorem dX10_seesNear_43 : decode cX10_seesNear 43 = .ok (.iaload, 1) := by decide +kernel
theorem dX10_seesNear_44 : decode cX10_seesNear 44 = .ok (.iadd, 1) := by decide +kernel
theorem dX10_seesNear_45 : decode cX10_seesNear 45 = .ok (.invokevirtual 115, 3) := by decide +kernel
theorem dX10_seesNear_48 : decode cX10_seesNear 48 = .ok (.ifCond .eq 7, 3) := by decide +kernel
theorem dX10_seesNear_51 : decode cX10_seesNear 51 = .ok (.iconst 1, 1) := by decide +kernel
theorem dX10_seesNear_52 : decode cX10_seesNear 52 = .ok (.goto 4, 3) := by decide +kernel
theorem dX10_seesNear_55 : decode cX10_seesNear 55 = .ok (.iconst 0, 1) := by decide +kernel
theorem dX10_seesNear_56 : decode cX10_seesNear 56 = .ok (.bastore, 1) := by decide +kernel
theorem dX10_seesNear_57 : decode cX10_seesNear 57 = .ok (.iinc 1 1, 3) := by decide +kernel
theorem dX10_seesNear_60 : decode cX10_seesNear 60 = .ok (.goto (-58), 3) := by decide +kernel
theorem dX10_seesNear_63 : decode cX10_seesNear 63 = .ok (.return_, 1) := by decide +kernel
theorem dX10_withWhich_0 : decode cX10_withWhich 0 = .ok (.iconst 0, 1) := by decide +kernel
theorem dX10_withWhich_1 : decode cX10_withWhich 1 = .ok (.istore_n 2, 1) := by decide +kernel
theorem dX10_withWhich_2 : decode cX10_withWhich 2 = .ok (.iconst 0, 1) := by decide +kernel
theorem dX10_withWhich_3 : decode cX10_withWhich 3 = .ok (.istore_n 3, 1) := by decide +kernel
theorem dX10_withWhich_4 : decode cX10_withWhich 4 = .ok (.iload_n 3, 1) := by decide +kernel
theorem dX10_withWhich_5 : decode cX10_withWhich 5 = .ok (.aload_n 0, 1) := by decide +kernel
theorem dX10_withWhich_6 : decode cX10_withWhich 6 = .ok (.getfield 233, 3) := by decide +kernel
theorem dX10_withWhich_9 : decode cX10_withWhich 9 = .ok (.if_icmp .ge 30, 3) := by decide +kernel
theorem dX10_withWhich_12 : decode cX10_withWhich 12 = .ok (.iload_n 2, 1) := by decide +kernel
theorem dX10_withWhich_13 : decode cX10_withWhich 13 = .ok (.aload_n 0, 1) := by decide +kernel
theorem dX10_withWhich_14 : decode cX10_withWhich 14 = .ok (.getfield 36, 3) := by decide +kernel
theorem dX10_withWhich_17 : decode cX10_withWhich 17 = .ok (.iload_n 3, 1) := by decide +kernel
theorem dX10_withWhich_18 : decode cX10_withWhich 18 = .ok (.iaload, 1) := by decide +kernel
theorem dX10_withWhich_19 : decode cX10_withWhich 19 = .ok (.iload_n 1, 1) := by decide +kernel
theorem dX10_withWhich_20 : decode cX10_withWhich 20 = .ok (.if_icmp .ne 7, 3) := by decide +kernel
theorem dX10_withWhich_23 : decode cX10_withWhich 23 = .ok (.iconst 1, 1) := by decide +kernel
theorem dX10_withWhich_24 : decode cX10_withWhich 24 = .ok (.goto 4, 3) := by decide +kernel
theorem dX10_withWhich_27 : decode cX10_withWhich 27 = .ok (.iconst 0, 1) := by decide +kernel
theorem dX10_withWhich_28 : decode cX10_withWhich 28 = .ok (.invokestatic 200, 3) := by decide +kernel
theorem dX10_withWhich_31 : decode cX10_withWhich 31 = .ok (.iadd, 1) := by decide +kernel
theorem dX10_withWhich_32 : decode cX10_withWhich 32 = .ok (.istore_n 2, 1) := by decide +kernel
theorem dX10_withWhich_33 : decode cX10_withWhich 33 = .ok (.iinc 3 1, 3) := by decide +kernel
theorem dX10_withWhich_36 : decode cX10_withWhich 36 = .ok (.goto (-32), 3) := by decide +kernel
theorem dX10_withWhich_39 : decode cX10_withWhich 39 = .ok (.iload_n 2, 1) := by decide +kernel
theorem dX10_withWhich_40 : decode cX10_withWhich 40 = .ok (.ireturn, 1) := by decide +kernel
theorem dX10_doubles_0 : decode cX10_doubles 0 = .ok (.iconst 0, 1) := by decide +kernel
theorem dX10_doubles_1 : decode cX10_doubles 1 = .ok (.istore_n 1, 1) := by decide +kernel
theorem dX10_doubles_2 : decode cX10_doubles 2 = .ok (.iconst 0, 1) := by decide +kernel
theorem dX10_doubles_3 : decode cX10_doubles 3 = .ok (.istore_n 2, 1) := by decide +kernel
theorem dX10_doubles_4 : decode cX10_doubles 4 = .ok (.iload_n 2, 1) := by decide +kernel
theorem dX10_doubles_5 : decode cX10_doubles 5 = .ok (.aload_n 0, 1) := by decide +kernel
theorem dX10_doubles_6 : decode cX10_doubles 6 = .ok (.getfield 233, 3) := by decide +kernel
theorem dX10_doubles_9 : decode cX10_doubles 9 = .ok (.if_icmp .ge 21, 3) := by decide +kernel
theorem dX10_doubles_12 : decode cX10_doubles 12 = .ok (.iload_n 1, 1) := by decide +kernel
theorem dX10_doubles_13 : decode cX10_doubles 13 = .ok (.aload_n 0, 1) := by decide +kernel
theorem dX10_doubles_14 : decode cX10_doubles 14 = .ok (.getfield 48, 3) := by decide +kernel
theorem dX10_doubles_17 : decode cX10_doubles 17 = .ok (.iload_n 2, 1) := by decide +kernel
theorem dX10_doubles_18 : decode cX10_doubles 18 = .ok (.baload, 1) := by decide +kernel
theorem dX10_doubles_19 : decode cX10_doubles 19 = .ok (.invokestatic 200, 3) := by decide +kernel
theorem dX10_doubles_22 : decode cX10_doubles 22 = .ok (.iadd, 1) := by decide +kernel
theorem dX10_doubles_23 : decode cX10_doubles 23 = .ok (.istore_n 1, 1) := by decide +kernel
theorem dX10_doubles_24 : decode cX10_doubles 24 = .ok (.iinc 2 1, 3) := by decide +kernel
theorem dX10_doubles_27 : decode cX10_doubles 27 = .ok (.goto (-23), 3) := by decide +kernel
theorem dX10_doubles_30 : decode cX10_doubles 30 = .ok (.iload_n 1, 1) := by decide +kernel
theorem dX10_doubles_31 : decode cX10_doubles 31 = .ok (.ireturn, 1) := by decide +kernel
theorem dX10_joinedKind_0 : decode cX10_joinedKind 0 = .ok (.aload_n 0, 1) := by decide +kernel
theorem dX10_joinedKind_1 : decode cX10_joinedKind 1 = .ok (.getfield 21, 3) := by decide +kernel
theorem dX10_joinedKind_4 : decode cX10_joinedKind 4 = .ok (.bipush 24, 2) := by decide +kernel
theorem dX10_joinedKind_6 : decode cX10_joinedKind 6 = .ok (.iaload, 1) := by decide +kernel
theorem dX10_joinedKind_7 : decode cX10_joinedKind 7 = .ok (.istore_n 1, 1) := by decide +kernel
theorem dX10_joinedKind_8 : decode cX10_joinedKind 8 = .ok (.aload_n 0, 1) := by decide +kernel
theorem dX10_joinedKind_9 : decode cX10_joinedKind 9 = .ok (.getfield 21, 3) := by decide +kernel
theorem dX10_joinedKind_12 : decode cX10_joinedKind 12 = .ok (.bipush 25, 2) := by decide +kernel
theorem dX10_joinedKind_14 : decode cX10_joinedKind 14 = .ok (.iaload, 1) := by decide +kernel
theorem dX10_joinedKind_15 : decode cX10_joinedKind 15 = .ok (.istore_n 2, 1) := by decide +kernel
theorem dX10_joinedKind_16 : decode cX10_joinedKind 16 = .ok (.iload_n 1, 1) := by decide +kernel
theorem dX10_joinedKind_17 : decode cX10_joinedKind 17 = .ok (.invokestatic 76, 3) := by decide +kernel
theorem dX10_joinedKind_20 : decode cX10_joinedKind 20 = .ok (.ifCond .eq 26, 3) := by decide +kernel
theorem dX10_joinedKind_23 : decode cX10_joinedKind 23 = .ok (.iload_n 2, 1) := by decide +kernel
theorem dX10_joinedKind_24 : decode cX10_joinedKind 24 = .ok (.invokestatic 76, 3) := by decide +kernel
theorem dX10_joinedKind_27 : decode cX10_joinedKind 27 = .ok (.ifCond .eq 19, 3) := by decide +kernel
theorem dX10_joinedKind_30 : decode cX10_joinedKind 30 = .ok (.iload_n 1, 1) := by decide +kernel
theorem dX10_joinedKind_31 : decode cX10_joinedKind 31 = .ok (.iload_n 2, 1) := by decide +kernel
theorem dX10_joinedKind_32 : decode cX10_joinedKind 32 = .ok (.invokestatic 108, 3) := by decide +kernel
theorem dX10_joinedKind_35 : decode cX10_joinedKind 35 = .ok (.bipush (-4), 2) := by decide +kernel
theorem dX10_joinedKind_37 : decode cX10_joinedKind 37 = .ok (.if_icmp .eq 9, 3) := by decide +kernel
theorem dX10_joinedKind_40 : decode cX10_joinedKind 40 = .ok (.iload_n 1, 1) := by decide +kernel
theorem dX10_joinedKind_41 : decode cX10_joinedKind 41 = .ok (.iload_n 2, 1) := by decide +kernel
theorem dX10_joinedKind_42 : decode cX10_joinedKind 42 = .ok (.invokestatic 108, 3) := by decide +kernel
theorem dX10_joinedKind_45 : decode cX10_joinedKind 45 = .ok (.ireturn, 1) := by decide +kernel
theorem dX10_joinedKind_46 : decode cX10_joinedKind 46 = .ok (.iload_n 1, 1) := by decide +kernel
theorem dX10_joinedKind_47 : decode cX10_joinedKind 47 = .ok (.iload_n 2, 1) := by decide +kernel
theorem dX10_joinedKind_48 : decode cX10_joinedKind 48 = .ok (.if_icmp .ne 13, 3) := by decide +kernel
theorem dX10_joinedKind_51 : decode cX10_joinedKind 51 = .ok (.iload_n 1, 1) := by decide +kernel
theorem dX10_joinedKind_52 : decode cX10_joinedKind 52 = .ok (.bipush 7, 2) := by decide +kernel
theorem dX10_joinedKind_54 : decode cX10_joinedKind 54 = .ok (.if_icmp .le 7, 3) := by decide +kernel
theorem dX10_joinedKind_57 : decode cX10_joinedKind 57 = .ok (.iload_n 1, 1) := by decide +kernel
theorem dX10_joinedKind_58 : decode cX10_joinedKind 58 = .ok (.goto 5, 3) := by decide +kernel
theorem dX10_joinedKind_61 : decode cX10_joinedKind 61 = .ok (.bipush 9, 2) := by decide +kernel
theorem dX10_joinedKind_63 : decode cX10_joinedKind 63 = .ok (.ireturn, 1) := by decide +kernel
theorem dX10_result_0 : decode cX10_result 0 = .ok (.iload_n 1, 1) := by decide +kernel
theorem dX10_result_1 : decode cX10_result 1 = .ok (.i2l, 1) := by decide +kernel
theorem dX10_result_2 : decode cX10_result 2 = .ok (.lconst 0, 1) := by decide +kernel
theorem dX10_result_3 : decode cX10_result 3 = .ok (.ldc2_w 211, 3) := by decide +kernel
theorem dX10_result_6 : decode cX10_result 6 = .ok (.invokestatic 72, 3) := by decide +kernel
theorem dX10_result_9 : decode cX10_result 9 = .ok (.ifCond .ne 5, 3) := by decide +kernel
theorem dX10_result_12 : decode cX10_result 12 = .ok (.iconst (-1), 1) := by decide +kernel
theorem dX10_result_13 : decode cX10_result 13 = .ok (.ireturn, 1) := by decide +kernel
theorem dX10_result_14 : decode cX10_result 14 = .ok (.aload_n 0, 1) := by decide +kernel
theorem dX10_result_15 : decode cX10_result 15 = .ok (.getfield 258, 3) := by decide +kernel
theorem dX10_result_18 : decode cX10_result 18 = .ok (.ifCond .ne 6, 3) := by decide +kernel
theorem dX10_result_21 : decode cX10_result 21 = .ok (.bipush (-2), 2) := by decide +kernel
theorem dX10_result_23 : decode cX10_result 23 = .ok (.ireturn, 1) := by decide +kernel
theorem dX10_result_24 : decode cX10_result 24 = .ok (.iload_n 1, 1) := by decide +kernel
theorem dX10_result_25 : decode cX10_result 25 = .ok (.tableswitch 87 0 8 #[51, 56, 61, 61, 61, 69, 69, 77, 82], 51) := by decide +kernel
theorem dX10_result_76 : decode cX10_result 76 = .ok (.aload_n 0, 1) := by decide +kernel
theorem dX10_result_77 : decode cX10_result 77 = .ok (.getfield 249, 3) := by decide +kernel
theorem dX10_result_80 : decode cX10_result 80 = .ok (.ireturn, 1) := by decide +kernel
theorem dX10_result_81 : decode cX10_result 81 = .ok (.aload_n 0, 1) := by decide +kernel
theorem dX10_result_82 : decode cX10_result 82 = .ok (.getfield 233, 3) := by decide +kernel
theorem dX10_result_85 : decode cX10_result 85 = .ok (.ireturn, 1) := by decide +kernel
theorem dX10_result_86 : decode cX10_result 86 = .ok (.aload_n 0, 1) := by decide +kernel
theorem dX10_result_87 : decode cX10_result 87 = .ok (.iload_n 1, 1) := by decide +kernel
theorem dX10_result_88 : decode cX10_result 88 = .ok (.iconst 2, 1) := by decide +kernel
theorem dX10_result_89 : decode cX10_result 89 = .ok (.isub, 1) := by decide +kernel
theorem dX10_result_90 : decode cX10_result 90 = .ok (.invokevirtual 265, 3) := by decide +kernel
theorem dX10_result_93 : decode cX10_result 93 = .ok (.ireturn, 1) := by decide +kernel
theorem dX10_result_94 : decode cX10_result 94 = .ok (.aload_n 0, 1) := by decide +kernel
theorem dX10_result_95 : decode cX10_result 95 = .ok (.iload_n 1, 1) := by decide +kernel
theorem dX10_result_96 : decode cX10_result 96 = .ok (.iconst 4, 1) := by decide +kernel
theorem dX10_result_97 : decode cX10_result 97 = .ok (.isub, 1) := by decide +kernel
theorem dX10_result_98 : decode cX10_result 98 = .ok (.invokevirtual 268, 3) := by decide +kernel
theorem dX10_result_101 : decode cX10_result 101 = .ok (.ireturn, 1) := by decide +kernel
theorem dX10_result_102 : decode cX10_result 102 = .ok (.aload_n 0, 1) := by decide +kernel
theorem dX10_result_103 : decode cX10_result 103 = .ok (.invokevirtual 271, 3) := by decide +kernel
theorem dX10_result_106 : decode cX10_result 106 = .ok (.ireturn, 1) := by decide +kernel
theorem dX10_result_107 : decode cX10_result 107 = .ok (.aload_n 0, 1) := by decide +kernel
theorem dX10_result_108 : decode cX10_result 108 = .ok (.invokevirtual 275, 3) := by decide +kernel
theorem dX10_result_111 : decode cX10_result 111 = .ok (.ireturn, 1) := by decide +kernel
theorem dX10_result_112 : decode cX10_result 112 = .ok (.aload_n 0, 1) := by decide +kernel
theorem dX10_result_113 : decode cX10_result 113 = .ok (.getfield 233, 3) := by decide +kernel
theorem dX10_result_116 : decode cX10_result 116 = .ok (.aload_n 0, 1) := by decide +kernel
theorem dX10_result_117 : decode cX10_result 117 = .ok (.invokevirtual 271, 3) := by decide +kernel
theorem dX10_result_120 : decode cX10_result 120 = .ok (.isub, 1) := by decide +kernel
theorem dX10_result_121 : decode cX10_result 121 = .ok (.ireturn, 1) := by decide +kernel
theorem dX10_step_0 : decode cX10_step 0 = .ok (.iload_n 1, 1) := by decide +kernel
theorem dX10_step_1 : decode cX10_step 1 = .ok (.ifCond .lt 15, 3) := by decide +kernel
theorem dX10_step_4 : decode cX10_step 4 = .ok (.iload_n 2, 1) := by decide +kernel
theorem dX10_step_5 : decode cX10_step 5 = .ok (.i2l, 1) := by decide +kernel
theorem dX10_step_6 : decode cX10_step 6 = .ok (.lconst 0, 1) := by decide +kernel
theorem dX10_step_7 : decode cX10_step 7 = .ok (.ldc2_w 207, 3) := by decide +kernel
theorem dX10_step_10 : decode cX10_step 10 = .ok (.invokestatic 72, 3) := by decide +kernel
theorem dX10_step_13 : decode cX10_step 13 = .ok (.ifCond .ne 5, 3) := by decide +kernel
theorem dX10_step_16 : decode cX10_step 16 = .ok (.iconst (-1), 1) := by decide +kernel
theorem dX10_step_17 : decode cX10_step 17 = .ok (.ireturn, 1) := by decide +kernel
theorem dX10_step_18 : decode cX10_step 18 = .ok (.aload_n 0, 1) := by decide +kernel
theorem dX10_step_19 : decode cX10_step 19 = .ok (.getfield 258, 3) := by decide +kernel
theorem dX10_step_22 : decode cX10_step 22 = .ok (.ifCond .ne 6, 3) := by decide +kernel
theorem dX10_step_25 : decode cX10_step 25 = .ok (.bipush (-2), 2) := by decide +kernel
theorem dX10_step_27 : decode cX10_step 27 = .ok (.ireturn, 1) := by decide +kernel
theorem dX10_step_28 : decode cX10_step 28 = .ok (.iload_n 1, 1) := by decide +kernel
theorem dX10_step_29 : decode cX10_step 29 = .ok (.aload_n 0, 1) := by decide +kernel
theorem dX10_step_30 : decode cX10_step 30 = .ok (.getfield 233, 3) := by decide +kernel
theorem dX10_step_33 : decode cX10_step 33 = .ok (.if_icmp .lt 6, 3) := by decide +kernel
theorem dX10_step_36 : decode cX10_step 36 = .ok (.bipush (-4), 2) := by decide +kernel
theorem dX10_step_38 : decode cX10_step 38 = .ok (.ireturn, 1) := by decide +kernel
theorem dX10_step_39 : decode cX10_step 39 = .ok (.iload_n 2, 1) := by decide +kernel
theorem dX10_step_40 : decode cX10_step 40 = .ok (.tableswitch 49 0 2 #[28, 35, 42], 28) := by decide +kernel
theorem dX10_step_68 : decode cX10_step 68 = .ok (.aload_n 0, 1) := by decide +kernel
theorem dX10_step_69 : decode cX10_step 69 = .ok (.getfield 36, 3) := by decide +kernel
theorem dX10_step_72 : decode cX10_step 72 = .ok (.iload_n 1, 1) := by decide +kernel
theorem dX10_step_73 : decode cX10_step 73 = .ok (.iaload, 1) := by decide +kernel
theorem dX10_step_74 : decode cX10_step 74 = .ok (.ireturn, 1) := by decide +kernel
theorem dX10_step_75 : decode cX10_step 75 = .ok (.aload_n 0, 1) := by decide +kernel
theorem dX10_step_76 : decode cX10_step 76 = .ok (.getfield 39, 3) := by decide +kernel
theorem dX10_step_79 : decode cX10_step 79 = .ok (.iload_n 1, 1) := by decide +kernel
theorem dX10_step_80 : decode cX10_step 80 = .ok (.iaload, 1) := by decide +kernel
theorem dX10_step_81 : decode cX10_step 81 = .ok (.ireturn, 1) := by decide +kernel
theorem dX10_step_82 : decode cX10_step 82 = .ok (.aload_n 0, 1) := by decide +kernel
theorem dX10_step_83 : decode cX10_step 83 = .ok (.getfield 42, 3) := by decide +kernel
theorem dX10_step_86 : decode cX10_step 86 = .ok (.iload_n 1, 1) := by decide +kernel
theorem dX10_step_87 : decode cX10_step 87 = .ok (.iaload, 1) := by decide +kernel
theorem dX10_step_88 : decode cX10_step 88 = .ok (.ireturn, 1) := by decide +kernel
theorem dX10_step_89 : decode cX10_step 89 = .ok (.aload_n 0, 1) := by decide +kernel
theorem dX10_step_90 : decode cX10_step 90 = .ok (.getfield 45, 3) := by decide +kernel
theorem dX10_step_93 : decode cX10_step 93 = .ok (.iload_n 1, 1) := by decide +kernel
theorem dX10_step_94 : decode cX10_step 94 = .ok (.iaload, 1) := by decide +kernel
theorem dX10_step_95 : decode cX10_step 95 = .ok (.ireturn, 1) := by decide +kernel
theorem dX10_halfOf_0 : decode cX10_halfOf 0 = .ok (.lload_n 0, 1) := by decide +kernel
theorem dX10_halfOf_1 : decode cX10_halfOf 1 = .ok (.iconst 1, 1) := by decide +kernel
theorem dX10_halfOf_2 : decode cX10_halfOf 2 = .ok (.lshr, 1) := by decide +kernel
theorem dX10_halfOf_3 : decode cX10_halfOf 3 = .ok (.lload_n 2, 1) := by decide +kernel
theorem dX10_halfOf_4 : decode cX10_halfOf 4 = .ok (.iconst 1, 1) := by decide +kernel
theorem dX10_halfOf_5 : decode cX10_halfOf 5 = .ok (.lshr, 1) := by decide +kernel
theorem dX10_halfOf_6 : decode cX10_halfOf 6 = .ok (.ladd, 1) := by decide +kernel
theorem dX10_halfOf_7 : decode cX10_halfOf 7 = .ok (.lload_n 0, 1) := by decide +kernel
theorem dX10_halfOf_8 : decode cX10_halfOf 8 = .ok (.lload_n 2, 1) := by decide +kernel
theorem dX10_halfOf_9 : decode cX10_halfOf 9 = .ok (.land, 1) := by decide +kernel
theorem dX10_halfOf_10 : decode cX10_halfOf 10 = .ok (.lconst 1, 1) := by decide +kernel
theorem dX10_halfOf_11 : decode cX10_halfOf 11 = .ok (.land, 1) := by decide +kernel
theorem dX10_halfOf_12 : decode cX10_halfOf 12 = .ok (.ladd, 1) := by decide +kernel
theorem dX10_halfOf_13 : decode cX10_halfOf 13 = .ok (.lreturn, 1) := by decide +kernel
theorem dX10_laysMean_0 : decode cX10_laysMean 0 = .ok (.aload_n 0, 1) := by decide +kernel
theorem dX10_laysMean_1 : decode cX10_laysMean 1 = .ok (.getfield 7, 3) := by decide +kernel
theorem dX10_laysMean_4 : decode cX10_laysMean 4 = .ok (.iload_n 1, 1) := by decide +kernel
theorem dX10_laysMean_5 : decode cX10_laysMean 5 = .ok (.iaload, 1) := by decide +kernel
theorem dX10_laysMean_6 : decode cX10_laysMean 6 = .ok (.aload_n 0, 1) := by decide +kernel
theorem dX10_laysMean_7 : decode cX10_laysMean 7 = .ok (.getfield 7, 3) := by decide +kernel
theorem dX10_laysMean_10 : decode cX10_laysMean 10 = .ok (.iload_n 2, 1) := by decide +kernel
theorem dX10_laysMean_11 : decode cX10_laysMean 11 = .ok (.iaload, 1) := by decide +kernel
theorem dX10_laysMean_12 : decode cX10_laysMean 12 = .ok (.invokestatic 108, 3) := by decide +kernel
theorem dX10_laysMean_15 : decode cX10_laysMean 15 = .ok (.istore 4, 2) := by decide +kernel
theorem dX10_laysMean_17 : decode cX10_laysMean 17 = .ok (.iload 4, 2) := by decide +kernel
theorem dX10_laysMean_19 : decode cX10_laysMean 19 = .ok (.ifCond .ne 27, 3) := by decide +kernel
theorem dX10_laysMean_22 : decode cX10_laysMean 22 = .ok (.aload_n 0, 1) := by decide +kernel
theorem dX10_laysMean_23 : decode cX10_laysMean 23 = .ok (.iload_n 3, 1) := by decide +kernel
theorem dX10_laysMean_24 : decode cX10_laysMean 24 = .ok (.iload 4, 2) := by decide +kernel
theorem dX10_laysMean_26 : decode cX10_laysMean 26 = .ok (.aload_n 0, 1) := by decide +kernel
theorem dX10_laysMean_27 : decode cX10_laysMean 27 = .ok (.getfield 13, 3) := by decide +kernel
theorem dX10_laysMean_30 : decode cX10_laysMean 30 = .ok (.iload_n 1, 1) := by decide +kernel
theorem dX10_laysMean_31 : decode cX10_laysMean 31 = .ok (.laload, 1) := by decide +kernel
theorem dX10_laysMean_32 : decode cX10_laysMean 32 = .ok (.aload_n 0, 1) := by decide +kernel
theorem dX10_laysMean_33 : decode cX10_laysMean 33 = .ok (.getfield 13, 3) := by decide +kernel
theorem dX10_laysMean_36 : decode cX10_laysMean 36 = .ok (.iload_n 2, 1) := by decide +kernel
theorem dX10_laysMean_37 : decode cX10_laysMean 37 = .ok (.laload, 1) := by decide +kernel
theorem dX10_laysMean_38 : decode cX10_laysMean 38 = .ok (.land, 1) := by decide +kernel
theorem dX10_laysMean_39 : decode cX10_laysMean 39 = .ok (.dconst 0, 1) := by decide +kernel
theorem dX10_laysMean_40 : decode cX10_laysMean 40 = .ok (.invokevirtual 84, 3) := by decide +kernel
theorem dX10_laysMean_43 : decode cX10_laysMean 43 = .ok (.goto 107, 3) := by decide +kernel
theorem dX10_laysMean_46 : decode cX10_laysMean 46 = .ok (.iload 4, 2) := by decide +kernel
theorem dX10_laysMean_48 : decode cX10_laysMean 48 = .ok (.bipush 6, 2) := by decide +kernel
theorem dX10_laysMean_50 : decode cX10_laysMean 50 = .ok (.if_icmp .ge 29, 3) := by decide +kernel
theorem dX10_laysMean_53 : decode cX10_laysMean 53 = .ok (.aload_n 0, 1) := by decide +kernel
theorem dX10_laysMean_54 : decode cX10_laysMean 54 = .ok (.iload_n 3, 1) := by decide +kernel
theorem dX10_laysMean_55 : decode cX10_laysMean 55 = .ok (.iload 4, 2) := by decide +kernel
theorem dX10_laysMean_57 : decode cX10_laysMean 57 = .ok (.aload_n 0, 1) := by decide +kernel
theorem dX10_laysMean_58 : decode cX10_laysMean 58 = .ok (.getfield 13, 3) := by decide +kernel
theorem dX10_laysMean_61 : decode cX10_laysMean 61 = .ok (.iload_n 1, 1) := by decide +kernel
theorem dX10_laysMean_62 : decode cX10_laysMean 62 = .ok (.laload, 1) := by decide +kernel
theorem dX10_laysMean_63 : decode cX10_laysMean 63 = .ok (.aload_n 0, 1) := by decide +kernel
theorem dX10_laysMean_64 : decode cX10_laysMean 64 = .ok (.getfield 13, 3) := by decide +kernel
theorem dX10_laysMean_67 : decode cX10_laysMean 67 = .ok (.iload_n 2, 1) := by decide +kernel
theorem dX10_laysMean_68 : decode cX10_laysMean 68 = .ok (.laload, 1) := by decide +kernel
theorem dX10_laysMean_69 : decode cX10_laysMean 69 = .ok (.invokestatic 278, 3) := by decide +kernel
theorem dX10_laysMean_72 : decode cX10_laysMean 72 = .ok (.dconst 0, 1) := by decide +kernel
theorem dX10_laysMean_73 : decode cX10_laysMean 73 = .ok (.invokevirtual 84, 3) := by decide +kernel
theorem dX10_laysMean_76 : decode cX10_laysMean 76 = .ok (.goto 74, 3) := by decide +kernel
theorem dX10_laysMean_79 : decode cX10_laysMean 79 = .ok (.iload 4, 2) := by decide +kernel
theorem dX10_laysMean_81 : decode cX10_laysMean 81 = .ok (.bipush 6, 2) := by decide +kernel
theorem dX10_laysMean_83 : decode cX10_laysMean 83 = .ok (.if_icmp .ne 38, 3) := by decide +kernel
theorem dX10_laysMean_86 : decode cX10_laysMean 86 = .ok (.aload_n 0, 1) := by decide +kernel
theorem dX10_laysMean_87 : decode cX10_laysMean 87 = .ok (.iload_n 3, 1) := by decide +kernel
theorem dX10_laysMean_88 : decode cX10_laysMean 88 = .ok (.iload 4, 2) := by decide +kernel
theorem dX10_laysMean_90 : decode cX10_laysMean 90 = .ok (.lconst 0, 1) := by decide +kernel
theorem dX10_laysMean_91 : decode cX10_laysMean 91 = .ok (.aload_n 0, 1) := by decide +kernel
theorem dX10_laysMean_92 : decode cX10_laysMean 92 = .ok (.iload_n 1, 1) := by decide +kernel
theorem dX10_laysMean_93 : decode cX10_laysMean 93 = .ok (.iload 4, 2) := by decide +kernel
theorem dX10_laysMean_95 : decode cX10_laysMean 95 = .ok (.invokevirtual 88, 3) := by decide +kernel
theorem dX10_laysMean_98 : decode cX10_laysMean 98 = .ok (.d2f, 1) := by decide +kernel
theorem dX10_laysMean_99 : decode cX10_laysMean 99 = .ok (.aload_n 0, 1) := by decide +kernel
theorem dX10_laysMean_100 : decode cX10_laysMean 100 = .ok (.iload_n 2, 1) := by decide +kernel
theorem dX10_laysMean_101 : decode cX10_laysMean 101 = .ok (.iload 4, 2) := by decide +kernel
theorem dX10_laysMean_103 : decode cX10_laysMean 103 = .ok (.invokevirtual 88, 3) := by decide +kernel
theorem dX10_laysMean_106 : decode cX10_laysMean 106 = .ok (.d2f, 1) := by decide +kernel
theorem dX10_laysMean_107 : decode cX10_laysMean 107 = .ok (.fadd, 1) := by decide +kernel
theorem dX10_laysMean_108 : decode cX10_laysMean 108 = .ok (.ldc_w 282, 3) := by decide +kernel
theorem dX10_laysMean_111 : decode cX10_laysMean 111 = .ok (.fmul, 1) := by decide +kernel
theorem dX10_laysMean_112 : decode cX10_laysMean 112 = .ok (.fconst 0, 1) := by decide +kernel
theorem dX10_laysMean_113 : decode cX10_laysMean 113 = .ok (.fadd, 1) := by decide +kernel
theorem dX10_laysMean_114 : decode cX10_laysMean 114 = .ok (.f2d, 1) := by decide +kernel
theorem dX10_laysMean_115 : decode cX10_laysMean 115 = .ok (.invokevirtual 84, 3) := by decide +kernel
theorem dX10_laysMean_118 : decode cX10_laysMean 118 = .ok (.goto 32, 3) := by decide +kernel
theorem dX10_laysMean_121 : decode cX10_laysMean 121 = .ok (.aload_n 0, 1) := by decide +kernel
theorem dX10_laysMean_122 : decode cX10_laysMean 122 = .ok (.iload_n 3, 1) := by decide +kernel
theorem dX10_laysMean_123 : decode cX10_laysMean 123 = .ok (.iload 4, 2) := by decide +kernel
theorem dX10_laysMean_125 : decode cX10_laysMean 125 = .ok (.lconst 0, 1) := by decide +kernel
theorem dX10_laysMean_126 : decode cX10_laysMean 126 = .ok (.aload_n 0, 1) := by decide +kernel
theorem dX10_laysMean_127 : decode cX10_laysMean 127 = .ok (.iload_n 1, 1) := by decide +kernel
theorem dX10_laysMean_128 : decode cX10_laysMean 128 = .ok (.iload 4, 2) := by decide +kernel
theorem dX10_laysMean_130 : decode cX10_laysMean 130 = .ok (.invokevirtual 88, 3) := by decide +kernel
theorem dX10_laysMean_133 : decode cX10_laysMean 133 = .ok (.aload_n 0, 1) := by decide +kernel
theorem dX10_laysMean_134 : decode cX10_laysMean 134 = .ok (.iload_n 2, 1) := by decide +kernel
theorem dX10_laysMean_135 : decode cX10_laysMean 135 = .ok (.iload 4, 2) := by decide +kernel
theorem dX10_laysMean_137 : decode cX10_laysMean 137 = .ok (.invokevirtual 88, 3) := by decide +kernel
theorem dX10_laysMean_140 : decode cX10_laysMean 140 = .ok (.dadd, 1) := by decide +kernel
theorem dX10_laysMean_141 : decode cX10_laysMean 141 = .ok (.ldc2_w 283, 3) := by decide +kernel
theorem dX10_laysMean_144 : decode cX10_laysMean 144 = .ok (.dmul, 1) := by decide +kernel
theorem dX10_laysMean_145 : decode cX10_laysMean 145 = .ok (.dconst 0, 1) := by decide +kernel
theorem dX10_laysMean_146 : decode cX10_laysMean 146 = .ok (.dadd, 1) := by decide +kernel
theorem dX10_laysMean_147 : decode cX10_laysMean 147 = .ok (.invokevirtual 84, 3) := by decide +kernel
theorem dX10_laysMean_150 : decode cX10_laysMean 150 = .ok (.return_, 1) := by decide +kernel
theorem dX10_makesBeside_0 : decode cX10_makesBeside 0 = .ok (.iload_n 3, 1) := by decide +kernel
theorem dX10_makesBeside_1 : decode cX10_makesBeside 1 = .ok (.iconst 2, 1) := by decide +kernel
theorem dX10_makesBeside_2 : decode cX10_makesBeside 2 = .ok (.if_icmp .ne 34, 3) := by decide +kernel
theorem dX10_makesBeside_5 : decode cX10_makesBeside 5 = .ok (.aload_n 0, 1) := by decide +kernel
theorem dX10_makesBeside_6 : decode cX10_makesBeside 6 = .ok (.getfield 7, 3) := by decide +kernel
theorem dX10_makesBeside_9 : decode cX10_makesBeside 9 = .ok (.iload_n 1, 1) := by decide +kernel
theorem dX10_makesBeside_10 : decode cX10_makesBeside 10 = .ok (.iaload, 1) := by decide +kernel
theorem dX10_makesBeside_11 : decode cX10_makesBeside 11 = .ok (.aload_n 0, 1) := by decide +kernel
theorem dX10_makesBeside_12 : decode cX10_makesBeside 12 = .ok (.getfield 7, 3) := by decide +kernel
theorem dX10_makesBeside_15 : decode cX10_makesBeside 15 = .ok (.iload_n 2, 1) := by decide +kernel
theorem dX10_makesBeside_16 : decode cX10_makesBeside 16 = .ok (.iaload, 1) := by decide +kernel
theorem dX10_makesBeside_17 : decode cX10_makesBeside 17 = .ok (.invokestatic 108, 3) := by decide +kernel
theorem dX10_makesBeside_20 : decode cX10_makesBeside 20 = .ok (.bipush (-4), 2) := by decide +kernel
theorem dX10_makesBeside_22 : decode cX10_makesBeside 22 = .ok (.if_icmp .eq 14, 3) := by decide +kernel
theorem dX10_makesBeside_25 : decode cX10_makesBeside 25 = .ok (.aload_n 0, 1) := by decide +kernel
theorem dX10_makesBeside_26 : decode cX10_makesBeside 26 = .ok (.iload_n 1, 1) := by decide +kernel
theorem dX10_makesBeside_27 : decode cX10_makesBeside 27 = .ok (.iload_n 2, 1) := by decide +kernel
theorem dX10_makesBeside_28 : decode cX10_makesBeside 28 = .ok (.iload 4, 2) := by decide +kernel
theorem dX10_makesBeside_30 : decode cX10_makesBeside 30 = .ok (.invokevirtual 285, 3) := by decide +kernel
theorem dX10_makesBeside_33 : decode cX10_makesBeside 33 = .ok (.goto 19, 3) := by decide +kernel
theorem dX10_makesBeside_36 : decode cX10_makesBeside 36 = .ok (.aload_n 0, 1) := by decide +kernel
theorem dX10_makesBeside_37 : decode cX10_makesBeside 37 = .ok (.iload_n 3, 1) := by decide +kernel
theorem dX10_makesBeside_38 : decode cX10_makesBeside 38 = .ok (.iconst 1, 1) := by decide +kernel
theorem dX10_makesBeside_39 : decode cX10_makesBeside 39 = .ok (.if_icmp .ne 7, 3) := by decide +kernel
theorem dX10_makesBeside_42 : decode cX10_makesBeside 42 = .ok (.iload_n 2, 1) := by decide +kernel
theorem dX10_makesBeside_43 : decode cX10_makesBeside 43 = .ok (.goto 4, 3) := by decide +kernel
theorem dX10_makesBeside_46 : decode cX10_makesBeside 46 = .ok (.iload_n 1, 1) := by decide +kernel
theorem dX10_makesBeside_47 : decode cX10_makesBeside 47 = .ok (.iload 4, 2) := by decide +kernel
theorem dX10_makesBeside_49 : decode cX10_makesBeside 49 = .ok (.invokevirtual 229, 3) := by decide +kernel
theorem dX10_makesBeside_52 : decode cX10_makesBeside 52 = .ok (.return_, 1) := by decide +kernel
theorem dX10_join_0 : decode cX10_join 0 = .ok (.iload_n 1, 1) := by decide +kernel
theorem dX10_join_1 : decode cX10_join 1 = .ok (.invokestatic 141, 3) := by decide +kernel
theorem dX10_join_4 : decode cX10_join 4 = .ok (.ifCond .eq 15, 3) := by decide +kernel
theorem dX10_join_7 : decode cX10_join 7 = .ok (.iload_n 2, 1) := by decide +kernel
theorem dX10_join_8 : decode cX10_join 8 = .ok (.i2l, 1) := by decide +kernel
theorem dX10_join_9 : decode cX10_join 9 = .ok (.lconst 0, 1) := by decide +kernel
theorem dX10_join_10 : decode cX10_join 10 = .ok (.ldc2_w 288, 3) := by decide +kernel
theorem dX10_join_13 : decode cX10_join 13 = .ok (.invokestatic 72, 3) := by decide +kernel
theorem dX10_join_16 : decode cX10_join 16 = .ok (.ifCond .ne 5, 3) := by decide +kernel
theorem dX10_join_19 : decode cX10_join 19 = .ok (.iconst (-1), 1) := by decide +kernel
theorem dX10_join_20 : decode cX10_join 20 = .ok (.ireturn, 1) := by decide +kernel
theorem dX10_join_21 : decode cX10_join 21 = .ok (.aload_n 0, 1) := by decide +kernel
theorem dX10_join_22 : decode cX10_join 22 = .ok (.getfield 258, 3) := by decide +kernel
theorem dX10_join_25 : decode cX10_join 25 = .ok (.ifCond .ne 6, 3) := by decide +kernel
theorem dX10_join_28 : decode cX10_join 28 = .ok (.bipush (-2), 2) := by decide +kernel
theorem dX10_join_30 : decode cX10_join 30 = .ok (.ireturn, 1) := by decide +kernel
theorem dX10_join_31 : decode cX10_join 31 = .ok (.aload_n 0, 1) := by decide +kernel
theorem dX10_join_32 : decode cX10_join 32 = .ok (.getfield 233, 3) := by decide +kernel
theorem dX10_join_35 : decode cX10_join 35 = .ok (.aload_n 0, 1) := by decide +kernel
theorem dX10_join_36 : decode cX10_join 36 = .ok (.invokevirtual 271, 3) := by decide +kernel
theorem dX10_join_39 : decode cX10_join 39 = .ok (.isub, 1) := by decide +kernel
theorem dX10_join_40 : decode cX10_join 40 = .ok (.bipush 20, 2) := by decide +kernel
theorem dX10_join_42 : decode cX10_join 42 = .ok (.if_icmp .le 6, 3) := by decide +kernel
theorem dX10_join_45 : decode cX10_join 45 = .ok (.bipush (-3), 2) := by decide +kernel
theorem dX10_join_47 : decode cX10_join 47 = .ok (.ireturn, 1) := by decide +kernel
theorem dX10_join_48 : decode cX10_join 48 = .ok (.iconst 0, 1) := by decide +kernel
theorem dX10_join_49 : decode cX10_join 49 = .ok (.istore_n 3, 1) := by decide +kernel
theorem dX10_join_50 : decode cX10_join 50 = .ok (.iconst 0, 1) := by decide +kernel
theorem dX10_join_51 : decode cX10_join 51 = .ok (.istore 4, 2) := by decide +kernel
theorem dX10_join_53 : decode cX10_join 53 = .ok (.iload 4, 2) := by decide +kernel
theorem dX10_join_55 : decode cX10_join 55 = .ok (.aload_n 0, 1) := by decide +kernel
theorem dX10_join_56 : decode cX10_join 56 = .ok (.getfield 233, 3) := by decide +kernel
theorem dX10_join_59 : decode cX10_join 59 = .ok (.if_icmp .ge 131, 3) := by decide +kernel
theorem dX10_join_62 : decode cX10_join 62 = .ok (.sipush 520, 3) := by decide +kernel
theorem dX10_join_65 : decode cX10_join 65 = .ok (.iload_n 3, 1) := by decide +kernel
theorem dX10_join_66 : decode cX10_join 66 = .ok (.iadd, 1) := by decide +kernel
theorem dX10_join_67 : decode cX10_join 67 = .ok (.istore 5, 2) := by decide +kernel
theorem dX10_join_69 : decode cX10_join 69 = .ok (.aload_n 0, 1) := by decide +kernel
theorem dX10_join_70 : decode cX10_join 70 = .ok (.getfield 36, 3) := by decide +kernel
theorem dX10_join_73 : decode cX10_join 73 = .ok (.iload 4, 2) := by decide +kernel
theorem dX10_join_75 : decode cX10_join 75 = .ok (.iaload, 1) := by decide +kernel
theorem dX10_join_76 : decode cX10_join 76 = .ok (.ifCond .ne 35, 3) := by decide +kernel
theorem dX10_join_79 : decode cX10_join 79 = .ok (.aload_n 0, 1) := by decide +kernel
theorem dX10_join_80 : decode cX10_join 80 = .ok (.sipush 480, 3) := by decide +kernel
theorem dX10_join_83 : decode cX10_join 83 = .ok (.aload_n 0, 1) := by decide +kernel
theorem dX10_join_84 : decode cX10_join 84 = .ok (.getfield 39, 3) := by decide +kernel
theorem dX10_join_87 : decode cX10_join 87 = .ok (.iload 4, 2) := by decide +kernel
theorem dX10_join_89 : decode cX10_join 89 = .ok (.iaload, 1) := by decide +kernel
theorem dX10_join_90 : decode cX10_join 90 = .ok (.iadd, 1) := by decide +kernel
theorem dX10_join_91 : decode cX10_join 91 = .ok (.sipush 500, 3) := by decide +kernel
theorem dX10_join_94 : decode cX10_join 94 = .ok (.aload_n 0, 1) := by decide +kernel
theorem dX10_join_95 : decode cX10_join 95 = .ok (.getfield 42, 3) := by decide +kernel
theorem dX10_join_98 : decode cX10_join 98 = .ok (.iload 4, 2) := by decide +kernel
theorem dX10_join_100 : decode cX10_join 100 = .ok (.iaload, 1) := by decide +kernel
theorem dX10_join_101 : decode cX10_join 101 = .ok (.iadd, 1) := by decide +kernel
theorem dX10_join_102 : decode cX10_join 102 = .ok (.iload_n 2, 1) := by decide +kernel
theorem dX10_join_103 : decode cX10_join 103 = .ok (.iload 5, 2) := by decide +kernel
theorem dX10_join_105 : decode cX10_join 105 = .ok (.invokevirtual 290, 3) := by decide +kernel
theorem dX10_join_108 : decode cX10_join 108 = .ok (.goto 55, 3) := by decide +kernel
theorem dX10_join_111 : decode cX10_join 111 = .ok (.aload_n 0, 1) := by decide +kernel
theorem dX10_join_112 : decode cX10_join 112 = .ok (.getfield 48, 3) := by decide +kernel
theorem dX10_join_115 : decode cX10_join 115 = .ok (.iload 4, 2) := by decide +kernel
theorem dX10_join_117 : decode cX10_join 117 = .ok (.baload, 1) := by decide +kernel
theorem dX10_join_118 : decode cX10_join 118 = .ok (.ifCond .ne 45, 3) := by decide +kernel
theorem dX10_join_121 : decode cX10_join 121 = .ok (.aload_n 0, 1) := by decide +kernel
theorem dX10_join_122 : decode cX10_join 122 = .ok (.aload_n 0, 1) := by decide +kernel
theorem dX10_join_123 : decode cX10_join 123 = .ok (.getfield 36, 3) := by decide +kernel
theorem dX10_join_126 : decode cX10_join 126 = .ok (.iload 4, 2) := by decide +kernel
theorem dX10_join_128 : decode cX10_join 128 = .ok (.iaload, 1) := by decide +kernel
theorem dX10_join_129 : decode cX10_join 129 = .ok (.iconst 1, 1) := by decide +kernel
theorem dX10_join_130 : decode cX10_join 130 = .ok (.if_icmp .ne 17, 3) := by decide +kernel
theorem dX10_join_133 : decode cX10_join 133 = .ok (.sipush 480, 3) := by decide +kernel
theorem dX10_join_136 : decode cX10_join 136 = .ok (.aload_n 0, 1) := by decide +kernel
theorem dX10_join_137 : decode cX10_join 137 = .ok (.getfield 39, 3) := by decide +kernel
theorem dX10_join_140 : decode cX10_join 140 = .ok (.iload 4, 2) := by decide +kernel
theorem dX10_join_142 : decode cX10_join 142 = .ok (.iaload, 1) := by decide +kernel
theorem dX10_join_143 : decode cX10_join 143 = .ok (.iadd, 1) := by decide +kernel
theorem dX10_join_144 : decode cX10_join 144 = .ok (.goto 14, 3) := by decide +kernel
theorem dX10_join_147 : decode cX10_join 147 = .ok (.sipush 500, 3) := by decide +kernel
theorem dX10_join_150 : decode cX10_join 150 = .ok (.aload_n 0, 1) := by decide +kernel
theorem dX10_join_151 : decode cX10_join 151 = .ok (.getfield 42, 3) := by decide +kernel
theorem dX10_join_154 : decode cX10_join 154 = .ok (.iload 4, 2) := by decide +kernel
theorem dX10_join_156 : decode cX10_join 156 = .ok (.iaload, 1) := by decide +kernel
theorem dX10_join_157 : decode cX10_join 157 = .ok (.iadd, 1) := by decide +kernel
theorem dX10_join_158 : decode cX10_join 158 = .ok (.iload 5, 2) := by decide +kernel
theorem dX10_join_160 : decode cX10_join 160 = .ok (.invokevirtual 229, 3) := by decide +kernel
theorem dX10_join_163 : decode cX10_join 163 = .ok (.iload_n 3, 1) := by decide +kernel
theorem dX10_join_164 : decode cX10_join 164 = .ok (.aload_n 0, 1) := by decide +kernel
theorem dX10_join_165 : decode cX10_join 165 = .ok (.getfield 48, 3) := by decide +kernel
theorem dX10_join_168 : decode cX10_join 168 = .ok (.iload 4, 2) := by decide +kernel
theorem dX10_join_170 : decode cX10_join 170 = .ok (.baload, 1) := by decide +kernel
theorem dX10_join_171 : decode cX10_join 171 = .ok (.ifCond .ne 7, 3) := by decide +kernel
theorem dX10_join_174 : decode cX10_join 174 = .ok (.iconst 1, 1) := by decide +kernel
theorem dX10_join_175 : decode cX10_join 175 = .ok (.goto 4, 3) := by decide +kernel
theorem dX10_join_178 : decode cX10_join 178 = .ok (.iconst 0, 1) := by decide +kernel
theorem dX10_join_179 : decode cX10_join 179 = .ok (.invokestatic 200, 3) := by decide +kernel
theorem dX10_join_182 : decode cX10_join 182 = .ok (.iadd, 1) := by decide +kernel
theorem dX10_join_183 : decode cX10_join 183 = .ok (.istore_n 3, 1) := by decide +kernel
theorem dX10_join_184 : decode cX10_join 184 = .ok (.iinc 4 1, 3) := by decide +kernel
theorem dX10_join_187 : decode cX10_join 187 = .ok (.goto (-134), 3) := by decide +kernel
theorem dX10_join_190 : decode cX10_join 190 = .ok (.aload_n 0, 1) := by decide +kernel
theorem dX10_join_191 : decode cX10_join 191 = .ok (.iload_n 1, 1) := by decide +kernel
theorem dX10_join_192 : decode cX10_join 192 = .ok (.aload_n 0, 1) := by decide +kernel
theorem dX10_join_193 : decode cX10_join 193 = .ok (.invokevirtual 275, 3) := by decide +kernel
theorem dX10_join_196 : decode cX10_join 196 = .ok (.iload_n 3, 1) := by decide +kernel
theorem dX10_join_197 : decode cX10_join 197 = .ok (.invokevirtual 293, 3) := by decide +kernel
theorem dX10_join_200 : decode cX10_join 200 = .ok (.iload_n 3, 1) := by decide +kernel
theorem dX10_join_201 : decode cX10_join 201 = .ok (.ireturn, 1) := by decide +kernel
theorem dX10_near_0 : decode cX10_near 0 = .ok (.iload_n 1, 1) := by decide +kernel
theorem dX10_near_1 : decode cX10_near 1 = .ok (.invokestatic 141, 3) := by decide +kernel
theorem dX10_near_4 : decode cX10_near 4 = .ok (.ifCond .ne 5, 3) := by decide +kernel
theorem dX10_near_7 : decode cX10_near 7 = .ok (.iconst (-1), 1) := by decide +kernel
theorem dX10_near_8 : decode cX10_near 8 = .ok (.ireturn, 1) := by decide +kernel
theorem dX10_near_9 : decode cX10_near 9 = .ok (.aload_n 0, 1) := by decide +kernel
theorem dX10_near_10 : decode cX10_near 10 = .ok (.iload_n 1, 1) := by decide +kernel
theorem dX10_near_11 : decode cX10_near 11 = .ok (.invokevirtual 124, 3) := by decide +kernel
theorem dX10_near_14 : decode cX10_near 14 = .ok (.ifCond .le 12, 3) := by decide +kernel
theorem dX10_near_17 : decode cX10_near 17 = .ok (.bipush (-10), 2) := by decide +kernel
theorem dX10_near_19 : decode cX10_near 19 = .ok (.aload_n 0, 1) := by decide +kernel
theorem dX10_near_20 : decode cX10_near 20 = .ok (.iload_n 1, 1) := by decide +kernel
theorem dX10_near_21 : decode cX10_near 21 = .ok (.invokevirtual 124, 3) := by decide +kernel
theorem dX10_near_24 : decode cX10_near 24 = .ok (.isub, 1) := by decide +kernel
theorem dX10_near_25 : decode cX10_near 25 = .ok (.ireturn, 1) := by decide +kernel
theorem dX10_near_26 : decode cX10_near 26 = .ok (.bipush (-4), 2) := by decide +kernel
theorem dX10_near_28 : decode cX10_near 28 = .ok (.istore_n 2, 1) := by decide +kernel
theorem dX10_near_29 : decode cX10_near 29 = .ok (.iconst 0, 1) := by decide +kernel
theorem dX10_near_30 : decode cX10_near 30 = .ok (.istore_n 3, 1) := by decide +kernel
theorem dX10_near_31 : decode cX10_near 31 = .ok (.iconst 0, 1) := by decide +kernel
theorem dX10_near_32 : decode cX10_near 32 = .ok (.istore 4, 2) := by decide +kernel
theorem dX10_near_34 : decode cX10_near 34 = .ok (.iload 4, 2) := by decide +kernel
theorem dX10_near_36 : decode cX10_near 36 = .ok (.bipush 8, 2) := by decide +kernel
theorem dX10_near_38 : decode cX10_near 38 = .ok (.if_icmp .ge 62, 3) := by decide +kernel
theorem dX10_near_41 : decode cX10_near 41 = .ok (.iload 4, 2) := by decide +kernel
theorem dX10_near_43 : decode cX10_near 43 = .ok (.iload_n 1, 1) := by decide +kernel
theorem dX10_near_44 : decode cX10_near 44 = .ok (.if_icmp .eq 50, 3) := by decide +kernel
theorem dX10_near_47 : decode cX10_near 47 = .ok (.aload_n 0, 1) := by decide +kernel
theorem dX10_near_48 : decode cX10_near 48 = .ok (.getfield 27, 3) := by decide +kernel
theorem dX10_near_51 : decode cX10_near 51 = .ok (.iload 4, 2) := by decide +kernel
theorem dX10_near_53 : decode cX10_near 53 = .ok (.iaload, 1) := by decide +kernel
theorem dX10_near_54 : decode cX10_near 54 = .ok (.ifCond .lt 40, 3) := by decide +kernel
theorem dX10_near_57 : decode cX10_near 57 = .ok (.aload_n 0, 1) := by decide +kernel
theorem dX10_near_58 : decode cX10_near 58 = .ok (.aload_n 0, 1) := by decide +kernel
theorem dX10_near_59 : decode cX10_near 59 = .ok (.getfield 27, 3) := by decide +kernel
theorem dX10_near_62 : decode cX10_near 62 = .ok (.iload_n 1, 1) := by decide +kernel
theorem dX10_near_63 : decode cX10_near 63 = .ok (.iaload, 1) := by decide +kernel
theorem dX10_near_64 : decode cX10_near 64 = .ok (.aload_n 0, 1) := by decide +kernel
theorem dX10_near_65 : decode cX10_near 65 = .ok (.getfield 27, 3) := by decide +kernel
theorem dX10_near_68 : decode cX10_near 68 = .ok (.iload 4, 2) := by decide +kernel
theorem dX10_near_70 : decode cX10_near 70 = .ok (.iaload, 1) := by decide +kernel
theorem dX10_near_71 : decode cX10_near 71 = .ok (.invokevirtual 246, 3) := by decide +kernel
theorem dX10_near_74 : decode cX10_near 74 = .ok (.istore 5, 2) := by decide +kernel
theorem dX10_near_76 : decode cX10_near 76 = .ok (.iload_n 2, 1) := by decide +kernel
theorem dX10_near_77 : decode cX10_near 77 = .ok (.bipush (-4), 2) := by decide +kernel
theorem dX10_near_79 : decode cX10_near 79 = .ok (.if_icmp .eq 9, 3) := by decide +kernel
theorem dX10_near_82 : decode cX10_near 82 = .ok (.iload 5, 2) := by decide +kernel
theorem dX10_near_84 : decode cX10_near 84 = .ok (.iload_n 3, 1) := by decide +kernel
theorem dX10_near_85 : decode cX10_near 85 = .ok (.if_icmp .ge 9, 3) := by decide +kernel
theorem dX10_near_88 : decode cX10_near 88 = .ok (.iload 4, 2) := by decide +kernel
theorem dX10_near_90 : decode cX10_near 90 = .ok (.istore_n 2, 1) := by decide +kernel
theorem dX10_near_91 : decode cX10_near 91 = .ok (.iload 5, 2) := by decide +kernel
theorem dX10_near_93 : decode cX10_near 93 = .ok (.istore_n 3, 1) := by decide +kernel
theorem dX10_near_94 : decode cX10_near 94 = .ok (.iinc 4 1, 3) := by decide +kernel
theorem dX10_near_97 : decode cX10_near 97 = .ok (.goto (-63), 3) := by decide +kernel
theorem dX10_near_100 : decode cX10_near 100 = .ok (.iload_n 2, 1) := by decide +kernel
theorem dX10_near_101 : decode cX10_near 101 = .ok (.ireturn, 1) := by decide +kernel
theorem dX10_alikeBy_0 : decode cX10_alikeBy 0 = .ok (.iconst 0, 1) := by decide +kernel
theorem dX10_alikeBy_1 : decode cX10_alikeBy 1 = .ok (.istore 4, 2) := by decide +kernel
theorem dX10_alikeBy_3 : decode cX10_alikeBy 3 = .ok (.iconst 0, 1) := by decide +kernel
theorem dX10_alikeBy_4 : decode cX10_alikeBy 4 = .ok (.istore 5, 2) := by decide +kernel
theorem dX10_alikeBy_6 : decode cX10_alikeBy 6 = .ok (.iload 5, 2) := by decide +kernel
theorem dX10_alikeBy_8 : decode cX10_alikeBy 8 = .ok (.aload_n 0, 1) := by decide +kernel
theorem dX10_alikeBy_9 : decode cX10_alikeBy 9 = .ok (.iload_n 1, 1) := by decide +kernel
theorem dX10_alikeBy_10 : decode cX10_alikeBy 10 = .ok (.invokevirtual 152, 3) := by decide +kernel
theorem dX10_alikeBy_13 : decode cX10_alikeBy 13 = .ok (.if_icmp .ge 65, 3) := by decide +kernel
theorem dX10_alikeBy_16 : decode cX10_alikeBy 16 = .ok (.iload 4, 2) := by decide +kernel
theorem dX10_alikeBy_18 : decode cX10_alikeBy 18 = .ok (.iload 5, 2) := by decide +kernel
theorem dX10_alikeBy_20 : decode cX10_alikeBy 20 = .ok (.iload_n 3, 1) := by decide +kernel
theorem dX10_alikeBy_21 : decode cX10_alikeBy 21 = .ok (.iadd, 1) := by decide +kernel
theorem dX10_alikeBy_22 : decode cX10_alikeBy 22 = .ok (.i2l, 1) := by decide +kernel
theorem dX10_alikeBy_23 : decode cX10_alikeBy 23 = .ok (.lconst 0, 1) := by decide +kernel
theorem dX10_alikeBy_24 : decode cX10_alikeBy 24 = .ok (.aload_n 0, 1) := by decide +kernel
theorem dX10_alikeBy_25 : decode cX10_alikeBy 25 = .ok (.iload_n 2, 1) := by decide +kernel
theorem dX10_alikeBy_26 : decode cX10_alikeBy 26 = .ok (.invokevirtual 152, 3) := by decide +kernel
theorem dX10_alikeBy_29 : decode cX10_alikeBy 29 = .ok (.iconst 1, 1) := by decide +kernel
theorem dX10_alikeBy_30 : decode cX10_alikeBy 30 = .ok (.isub, 1) := by decide +kernel
theorem dX10_alikeBy_31 : decode cX10_alikeBy 31 = .ok (.i2l, 1) := by decide +kernel
theorem dX10_alikeBy_32 : decode cX10_alikeBy 32 = .ok (.invokestatic 72, 3) := by decide +kernel
theorem dX10_alikeBy_35 : decode cX10_alikeBy 35 = .ok (.ifCond .eq 30, 3) := by decide +kernel
theorem dX10_alikeBy_38 : decode cX10_alikeBy 38 = .ok (.aload_n 0, 1) := by decide +kernel
theorem dX10_alikeBy_39 : decode cX10_alikeBy 39 = .ok (.aload_n 0, 1) := by decide +kernel
theorem dX10_alikeBy_40 : decode cX10_alikeBy 40 = .ok (.iload_n 1, 1) := by decide +kernel
theorem dX10_alikeBy_41 : decode cX10_alikeBy 41 = .ok (.iload 5, 2) := by decide +kernel
theorem dX10_alikeBy_43 : decode cX10_alikeBy 43 = .ok (.invokevirtual 135, 3) := by decide +kernel
theorem dX10_alikeBy_46 : decode cX10_alikeBy 46 = .ok (.aload_n 0, 1) := by decide +kernel
theorem dX10_alikeBy_47 : decode cX10_alikeBy 47 = .ok (.iload_n 2, 1) := by decide +kernel
theorem dX10_alikeBy_48 : decode cX10_alikeBy 48 = .ok (.iload 5, 2) := by decide +kernel
theorem dX10_alikeBy_50 : decode cX10_alikeBy 50 = .ok (.iload_n 3, 1) := by decide +kernel
theorem dX10_alikeBy_51 : decode cX10_alikeBy 51 = .ok (.iadd, 1) := by decide +kernel
theorem dX10_alikeBy_52 : decode cX10_alikeBy 52 = .ok (.invokevirtual 135, 3) := by decide +kernel
theorem dX10_alikeBy_55 : decode cX10_alikeBy 55 = .ok (.invokevirtual 112, 3) := by decide +kernel
theorem dX10_alikeBy_58 : decode cX10_alikeBy 58 = .ok (.ifCond .eq 7, 3) := by decide +kernel
theorem dX10_alikeBy_61 : decode cX10_alikeBy 61 = .ok (.iconst 1, 1) := by decide +kernel
theorem dX10_alikeBy_62 : decode cX10_alikeBy 62 = .ok (.goto 4, 3) := by decide +kernel
theorem dX10_alikeBy_65 : decode cX10_alikeBy 65 = .ok (.iconst 0, 1) := by decide +kernel
theorem dX10_alikeBy_66 : decode cX10_alikeBy 66 = .ok (.invokestatic 200, 3) := by decide +kernel
theorem dX10_alikeBy_69 : decode cX10_alikeBy 69 = .ok (.iadd, 1) := by decide +kernel
theorem dX10_alikeBy_70 : decode cX10_alikeBy 70 = .ok (.istore 4, 2) := by decide +kernel
theorem dX10_alikeBy_72 : decode cX10_alikeBy 72 = .ok (.iinc 5 1, 3) := by decide +kernel
theorem dX10_alikeBy_75 : decode cX10_alikeBy 75 = .ok (.goto (-69), 3) := by decide +kernel
theorem dX10_alikeBy_78 : decode cX10_alikeBy 78 = .ok (.iload 4, 2) := by decide +kernel
theorem dX10_alikeBy_80 : decode cX10_alikeBy 80 = .ok (.ireturn, 1) := by decide +kernel
theorem dX10_lag_0 : decode cX10_lag 0 = .ok (.iload_n 1, 1) := by decide +kernel
theorem dX10_lag_1 : decode cX10_lag 1 = .ok (.invokestatic 141, 3) := by decide +kernel
theorem dX10_lag_4 : decode cX10_lag 4 = .ok (.ifCond .eq 10, 3) := by decide +kernel
theorem dX10_lag_7 : decode cX10_lag 7 = .ok (.iload_n 2, 1) := by decide +kernel
theorem dX10_lag_8 : decode cX10_lag 8 = .ok (.invokestatic 141, 3) := by decide +kernel
theorem dX10_lag_11 : decode cX10_lag 11 = .ok (.ifCond .ne 5, 3) := by decide +kernel
theorem dX10_lag_14 : decode cX10_lag 14 = .ok (.iconst (-1), 1) := by decide +kernel
theorem dX10_lag_15 : decode cX10_lag 15 = .ok (.ireturn, 1) := by decide +kernel
theorem dX10_lag_16 : decode cX10_lag 16 = .ok (.aload_n 0, 1) := by decide +kernel
theorem dX10_lag_17 : decode cX10_lag 17 = .ok (.iload_n 1, 1) := by decide +kernel
theorem dX10_lag_18 : decode cX10_lag 18 = .ok (.iload_n 2, 1) := by decide +kernel
theorem dX10_lag_19 : decode cX10_lag 19 = .ok (.invokevirtual 240, 3) := by decide +kernel
theorem dX10_lag_22 : decode cX10_lag 22 = .ok (.ifCond .le 13, 3) := by decide +kernel
theorem dX10_lag_25 : decode cX10_lag 25 = .ok (.bipush (-10), 2) := by decide +kernel
theorem dX10_lag_27 : decode cX10_lag 27 = .ok (.aload_n 0, 1) := by decide +kernel
theorem dX10_lag_28 : decode cX10_lag 28 = .ok (.iload_n 1, 1) := by decide +kernel
theorem dX10_lag_29 : decode cX10_lag 29 = .ok (.iload_n 2, 1) := by decide +kernel
theorem dX10_lag_30 : decode cX10_lag 30 = .ok (.invokevirtual 240, 3) := by decide +kernel
theorem dX10_lag_33 : decode cX10_lag 33 = .ok (.isub, 1) := by decide +kernel
theorem dX10_lag_34 : decode cX10_lag 34 = .ok (.ireturn, 1) := by decide +kernel
theorem dX10_lag_35 : decode cX10_lag 35 = .ok (.iconst 0, 1) := by decide +kernel
theorem dX10_lag_36 : decode cX10_lag 36 = .ok (.istore_n 3, 1) := by decide +kernel
theorem dX10_lag_37 : decode cX10_lag 37 = .ok (.aload_n 0, 1) := by decide +kernel
theorem dX10_lag_38 : decode cX10_lag 38 = .ok (.iload_n 1, 1) := by decide +kernel
theorem dX10_lag_39 : decode cX10_lag 39 = .ok (.iload_n 2, 1) := by decide +kernel
theorem dX10_lag_40 : decode cX10_lag 40 = .ok (.iconst 0, 1) := by decide +kernel
theorem dX10_lag_41 : decode cX10_lag 41 = .ok (.invokevirtual 296, 3) := by decide +kernel
theorem dX10_lag_44 : decode cX10_lag 44 = .ok (.istore 4, 2) := by decide +kernel
theorem dX10_lag_46 : decode cX10_lag 46 = .ok (.iconst 1, 1) := by decide +kernel
theorem dX10_lag_47 : decode cX10_lag 47 = .ok (.istore 5, 2) := by decide +kernel
theorem dX10_lag_49 : decode cX10_lag 49 = .ok (.iload 5, 2) := by decide +kernel
theorem dX10_lag_51 : decode cX10_lag 51 = .ok (.bipush 20, 2) := by decide +kernel
theorem dX10_lag_53 : decode cX10_lag 53 = .ok (.if_icmp .ge 79, 3) := by decide +kernel
theorem dX10_lag_56 : decode cX10_lag 56 = .ok (.iconst 0, 1) := by decide +kernel
theorem dX10_lag_57 : decode cX10_lag 57 = .ok (.istore 6, 2) := by decide +kernel
theorem dX10_lag_59 : decode cX10_lag 59 = .ok (.iload 6, 2) := by decide +kernel
theorem dX10_lag_61 : decode cX10_lag 61 = .ok (.iconst 2, 1) := by decide +kernel
theorem dX10_lag_62 : decode cX10_lag 62 = .ok (.if_icmp .ge 64, 3) := by decide +kernel
theorem dX10_lag_65 : decode cX10_lag 65 = .ok (.iload 6, 2) := by decide +kernel
theorem dX10_lag_67 : decode cX10_lag 67 = .ok (.ifCond .ne 9, 3) := by decide +kernel
theorem dX10_lag_70 : decode cX10_lag 70 = .ok (.iload 5, 2) := by decide +kernel
theorem dX10_lag_72 : decode cX10_lag 72 = .ok (.ineg, 1) := by decide +kernel
theorem dX10_lag_73 : decode cX10_lag 73 = .ok (.goto 5, 3) := by decide +kernel
theorem dX10_lag_76 : decode cX10_lag 76 = .ok (.iload 5, 2) := by decide +kernel
theorem dX10_lag_78 : decode cX10_lag 78 = .ok (.istore 7, 2) := by decide +kernel
theorem dX10_lag_80 : decode cX10_lag 80 = .ok (.aload_n 0, 1) := by decide +kernel
theorem dX10_lag_81 : decode cX10_lag 81 = .ok (.iload_n 1, 1) := by decide +kernel
theorem dX10_lag_82 : decode cX10_lag 82 = .ok (.iload_n 2, 1) := by decide +kernel
theorem dX10_lag_83 : decode cX10_lag 83 = .ok (.iload 7, 2) := by decide +kernel
theorem dX10_lag_85 : decode cX10_lag 85 = .ok (.invokevirtual 296, 3) := by decide +kernel
theorem dX10_lag_88 : decode cX10_lag 88 = .ok (.istore 8, 2) := by decide +kernel
theorem dX10_lag_90 : decode cX10_lag 90 = .ok (.iload 8, 2) := by decide +kernel
theorem dX10_lag_92 : decode cX10_lag 92 = .ok (.iload 4, 2) := by decide +kernel
theorem dX10_lag_94 : decode cX10_lag 94 = .ok (.if_icmp .le 8, 3) := by decide +kernel
theorem dX10_lag_97 : decode cX10_lag 97 = .ok (.iload 7, 2) := by decide +kernel
theorem dX10_lag_99 : decode cX10_lag 99 = .ok (.goto 4, 3) := by decide +kernel
theorem dX10_lag_102 : decode cX10_lag 102 = .ok (.iload_n 3, 1) := by decide +kernel
theorem dX10_lag_103 : decode cX10_lag 103 = .ok (.istore_n 3, 1) := by decide +kernel
theorem dX10_lag_104 : decode cX10_lag 104 = .ok (.iload 8, 2) := by decide +kernel
theorem dX10_lag_106 : decode cX10_lag 106 = .ok (.iload 4, 2) := by decide +kernel
theorem dX10_lag_108 : decode cX10_lag 108 = .ok (.if_icmp .le 8, 3) := by decide +kernel
theorem dX10_lag_111 : decode cX10_lag 111 = .ok (.iload 8, 2) := by decide +kernel
theorem dX10_lag_113 : decode cX10_lag 113 = .ok (.goto 5, 3) := by decide +kernel
theorem dX10_lag_116 : decode cX10_lag 116 = .ok (.iload 4, 2) := by decide +kernel
theorem dX10_lag_118 : decode cX10_lag 118 = .ok (.istore 4, 2) := by decide +kernel
theorem dX10_lag_120 : decode cX10_lag 120 = .ok (.iinc 6 1, 3) := by decide +kernel
theorem dX10_lag_123 : decode cX10_lag 123 = .ok (.goto (-64), 3) := by decide +kernel
theorem dX10_lag_126 : decode cX10_lag 126 = .ok (.iinc 5 1, 3) := by decide +kernel
theorem dX10_lag_129 : decode cX10_lag 129 = .ok (.goto (-80), 3) := by decide +kernel
theorem dX10_lag_132 : decode cX10_lag 132 = .ok (.iload 4, 2) := by decide +kernel
theorem dX10_lag_134 : decode cX10_lag 134 = .ok (.ifCond .ne 8, 3) := by decide +kernel
theorem dX10_lag_137 : decode cX10_lag 137 = .ok (.bipush (-4), 2) := by decide +kernel
theorem dX10_lag_139 : decode cX10_lag 139 = .ok (.goto 7, 3) := by decide +kernel
theorem dX10_lag_142 : decode cX10_lag 142 = .ok (.bipush 100, 2) := by decide +kernel
theorem dX10_lag_144 : decode cX10_lag 144 = .ok (.iload_n 3, 1) := by decide +kernel
theorem dX10_lag_145 : decode cX10_lag 145 = .ok (.iadd, 1) := by decide +kernel
theorem dX10_lag_146 : decode cX10_lag 146 = .ok (.ireturn, 1) := by decide +kernel
theorem dX10_vote_0 : decode cX10_vote 0 = .ok (.iload_n 1, 1) := by decide +kernel
theorem dX10_vote_1 : decode cX10_vote 1 = .ok (.invokestatic 141, 3) := by decide +kernel
theorem dX10_vote_4 : decode cX10_vote 4 = .ok (.ifCond .eq 25, 3) := by decide +kernel
theorem dX10_vote_7 : decode cX10_vote 7 = .ok (.iload_n 2, 1) := by decide +kernel
theorem dX10_vote_8 : decode cX10_vote 8 = .ok (.invokestatic 141, 3) := by decide +kernel
theorem dX10_vote_11 : decode cX10_vote 11 = .ok (.ifCond .eq 18, 3) := by decide +kernel
theorem dX10_vote_14 : decode cX10_vote 14 = .ok (.iload_n 3, 1) := by decide +kernel
theorem dX10_vote_15 : decode cX10_vote 15 = .ok (.invokestatic 141, 3) := by decide +kernel
theorem dX10_vote_18 : decode cX10_vote 18 = .ok (.ifCond .eq 11, 3) := by decide +kernel
theorem dX10_vote_21 : decode cX10_vote 21 = .ok (.iload 4, 2) := by decide +kernel
theorem dX10_vote_23 : decode cX10_vote 23 = .ok (.invokestatic 141, 3) := by decide +kernel
theorem dX10_vote_26 : decode cX10_vote 26 = .ok (.ifCond .ne 5, 3) := by decide +kernel
theorem dX10_vote_29 : decode cX10_vote 29 = .ok (.iconst (-1), 1) := by decide +kernel
theorem dX10_vote_30 : decode cX10_vote 30 = .ok (.ireturn, 1) := by decide +kernel
theorem dX10_vote_31 : decode cX10_vote 31 = .ok (.aload_n 0, 1) := by decide +kernel
theorem dX10_vote_32 : decode cX10_vote 32 = .ok (.iload_n 2, 1) := by decide +kernel
theorem dX10_vote_33 : decode cX10_vote 33 = .ok (.iload_n 3, 1) := by decide +kernel
theorem dX10_vote_34 : decode cX10_vote 34 = .ok (.invokevirtual 240, 3) := by decide +kernel
theorem dX10_vote_37 : decode cX10_vote 37 = .ok (.ifCond .le 12, 3) := by decide +kernel
theorem dX10_vote_40 : decode cX10_vote 40 = .ok (.aload_n 0, 1) := by decide +kernel
theorem dX10_vote_41 : decode cX10_vote 41 = .ok (.iload_n 2, 1) := by decide +kernel
theorem dX10_vote_42 : decode cX10_vote 42 = .ok (.iload_n 3, 1) := by decide +kernel
theorem dX10_vote_43 : decode cX10_vote 43 = .ok (.invokevirtual 240, 3) := by decide +kernel
theorem dX10_vote_46 : decode cX10_vote 46 = .ok (.goto 9, 3) := by decide +kernel
theorem dX10_vote_49 : decode cX10_vote 49 = .ok (.aload_n 0, 1) := by decide +kernel
theorem dX10_vote_50 : decode cX10_vote 50 = .ok (.iload 4, 2) := by decide +kernel
theorem dX10_vote_52 : decode cX10_vote 52 = .ok (.invokevirtual 124, 3) := by decide +kernel
theorem dX10_vote_55 : decode cX10_vote 55 = .ok (.istore 5, 2) := by decide +kernel
theorem dX10_vote_57 : decode cX10_vote 57 = .ok (.iload 5, 2) := by decide +kernel
theorem dX10_vote_59 : decode cX10_vote 59 = .ok (.ifCond .le 9, 3) := by decide +kernel
theorem dX10_vote_62 : decode cX10_vote 62 = .ok (.bipush (-10), 2) := by decide +kernel
theorem dX10_vote_64 : decode cX10_vote 64 = .ok (.iload 5, 2) := by decide +kernel
theorem dX10_vote_66 : decode cX10_vote 66 = .ok (.isub, 1) := by decide +kernel
theorem dX10_vote_67 : decode cX10_vote 67 = .ok (.ireturn, 1) := by decide +kernel
theorem dX10_vote_68 : decode cX10_vote 68 = .ok (.aload_n 0, 1) := by decide +kernel
theorem dX10_vote_69 : decode cX10_vote 69 = .ok (.iload_n 2, 1) := by decide +kernel
theorem dX10_vote_70 : decode cX10_vote 70 = .ok (.invokevirtual 152, 3) := by decide +kernel
theorem dX10_vote_73 : decode cX10_vote 73 = .ok (.istore 6, 2) := by decide +kernel
theorem dX10_vote_75 : decode cX10_vote 75 = .ok (.aload_n 0, 1) := by decide +kernel
theorem dX10_vote_76 : decode cX10_vote 76 = .ok (.iload_n 3, 1) := by decide +kernel
theorem dX10_vote_77 : decode cX10_vote 77 = .ok (.invokevirtual 152, 3) := by decide +kernel
theorem dX10_vote_80 : decode cX10_vote 80 = .ok (.iload 6, 2) := by decide +kernel
theorem dX10_vote_82 : decode cX10_vote 82 = .ok (.if_icmp .ne 14, 3) := by decide +kernel
theorem dX10_vote_85 : decode cX10_vote 85 = .ok (.aload_n 0, 1) := by decide +kernel
theorem dX10_vote_86 : decode cX10_vote 86 = .ok (.iload 4, 2) := by decide +kernel
theorem dX10_vote_88 : decode cX10_vote 88 = .ok (.invokevirtual 152, 3) := by decide +kernel
theorem dX10_vote_91 : decode cX10_vote 91 = .ok (.iload 6, 2) := by decide +kernel
theorem dX10_vote_93 : decode cX10_vote 93 = .ok (.if_icmp .eq 6, 3) := by decide +kernel
theorem dX10_vote_96 : decode cX10_vote 96 = .ok (.bipush (-2), 2) := by decide +kernel
theorem dX10_vote_98 : decode cX10_vote 98 = .ok (.ireturn, 1) := by decide +kernel
theorem dX10_vote_99 : decode cX10_vote 99 = .ok (.iconst 0, 1) := by decide +kernel
theorem dX10_vote_100 : decode cX10_vote 100 = .ok (.istore 7, 2) := by decide +kernel
theorem dX10_vote_102 : decode cX10_vote 102 = .ok (.iconst 0, 1) := by decide +kernel
theorem dX10_vote_103 : decode cX10_vote 103 = .ok (.istore 8, 2) := by decide +kernel
theorem dX10_vote_105 : decode cX10_vote 105 = .ok (.iload 8, 2) := by decide +kernel
theorem dX10_vote_107 : decode cX10_vote 107 = .ok (.iload 6, 2) := by decide +kernel
theorem dX10_vote_109 : decode cX10_vote 109 = .ok (.if_icmp .ge 165, 3) := by decide +kernel
theorem dX10_vote_112 : decode cX10_vote 112 = .ok (.aload_n 0, 1) := by decide +kernel
theorem dX10_vote_113 : decode cX10_vote 113 = .ok (.iload_n 2, 1) := by decide +kernel
theorem dX10_vote_114 : decode cX10_vote 114 = .ok (.iload 8, 2) := by decide +kernel
theorem dX10_vote_116 : decode cX10_vote 116 = .ok (.invokevirtual 135, 3) := by decide +kernel
theorem dX10_vote_119 : decode cX10_vote 119 = .ok (.istore 9, 2) := by decide +kernel
theorem dX10_vote_121 : decode cX10_vote 121 = .ok (.aload_n 0, 1) := by decide +kernel
theorem dX10_vote_122 : decode cX10_vote 122 = .ok (.iload_n 3, 1) := by decide +kernel
theorem dX10_vote_123 : decode cX10_vote 123 = .ok (.iload 8, 2) := by decide +kernel
theorem dX10_vote_125 : decode cX10_vote 125 = .ok (.invokevirtual 135, 3) := by decide +kernel
theorem dX10_vote_128 : decode cX10_vote 128 = .ok (.istore 10, 2) := by decide +kernel
theorem dX10_vote_130 : decode cX10_vote 130 = .ok (.aload_n 0, 1) := by decide +kernel
theorem dX10_vote_131 : decode cX10_vote 131 = .ok (.iload 9, 2) := by decide +kernel
theorem dX10_vote_133 : decode cX10_vote 133 = .ok (.iload 10, 2) := by decide +kernel
theorem dX10_vote_135 : decode cX10_vote 135 = .ok (.invokevirtual 112, 3) := by decide +kernel
theorem dX10_vote_138 : decode cX10_vote 138 = .ok (.ifCond .ne 20, 3) := by decide +kernel
theorem dX10_vote_141 : decode cX10_vote 141 = .ok (.aload_n 0, 1) := by decide +kernel
theorem dX10_vote_142 : decode cX10_vote 142 = .ok (.iload 9, 2) := by decide +kernel
theorem dX10_vote_144 : decode cX10_vote 144 = .ok (.aload_n 0, 1) := by decide +kernel
theorem dX10_vote_145 : decode cX10_vote 145 = .ok (.iload 4, 2) := by decide +kernel
theorem dX10_vote_147 : decode cX10_vote 147 = .ok (.iload 8, 2) := by decide +kernel
theorem dX10_vote_149 : decode cX10_vote 149 = .ok (.invokevirtual 135, 3) := by decide +kernel
theorem dX10_vote_152 : decode cX10_vote 152 = .ok (.invokevirtual 112, 3) := by decide +kernel
theorem dX10_vote_155 : decode cX10_vote 155 = .ok (.ifCond .eq 7, 3) := by decide +kernel
theorem dX10_vote_158 : decode cX10_vote 158 = .ok (.iconst 1, 1) := by decide +kernel
theorem dX10_vote_159 : decode cX10_vote 159 = .ok (.goto 4, 3) := by decide +kernel
theorem dX10_vote_162 : decode cX10_vote 162 = .ok (.iconst 0, 1) := by decide +kernel
theorem dX10_vote_163 : decode cX10_vote 163 = .ok (.istore 11, 2) := by decide +kernel
theorem dX10_vote_165 : decode cX10_vote 165 = .ok (.iload 11, 2) := by decide +kernel
theorem dX10_vote_167 : decode cX10_vote 167 = .ok (.ifCond .ne 24, 3) := by decide +kernel
theorem dX10_vote_170 : decode cX10_vote 170 = .ok (.aload_n 0, 1) := by decide +kernel
theorem dX10_vote_171 : decode cX10_vote 171 = .ok (.iload 10, 2) := by decide +kernel
theorem dX10_vote_173 : decode cX10_vote 173 = .ok (.aload_n 0, 1) := by decide +kernel
theorem dX10_vote_174 : decode cX10_vote 174 = .ok (.iload 4, 2) := by decide +kernel
theorem dX10_vote_176 : decode cX10_vote 176 = .ok (.iload 8, 2) := by decide +kernel
theorem dX10_vote_178 : decode cX10_vote 178 = .ok (.invokevirtual 135, 3) := by decide +kernel
theorem dX10_vote_181 : decode cX10_vote 181 = .ok (.invokevirtual 112, 3) := by decide +kernel
theorem dX10_vote_184 : decode cX10_vote 184 = .ok (.ifCond .eq 7, 3) := by decide +kernel
theorem dX10_vote_187 : decode cX10_vote 187 = .ok (.iconst 1, 1) := by decide +kernel
theorem dX10_vote_188 : decode cX10_vote 188 = .ok (.goto 4, 3) := by decide +kernel
theorem dX10_vote_191 : decode cX10_vote 191 = .ok (.iconst 0, 1) := by decide +kernel
theorem dX10_vote_192 : decode cX10_vote 192 = .ok (.istore 12, 2) := by decide +kernel
theorem dX10_vote_194 : decode cX10_vote 194 = .ok (.iload 12, 2) := by decide +kernel
theorem dX10_vote_196 : decode cX10_vote 196 = .ok (.ifCond .eq 27, 3) := by decide +kernel
theorem dX10_vote_199 : decode cX10_vote 199 = .ok (.aload_n 0, 1) := by decide +kernel
theorem dX10_vote_200 : decode cX10_vote 200 = .ok (.getfield 7, 3) := by decide +kernel
theorem dX10_vote_203 : decode cX10_vote 203 = .ok (.iload 10, 2) := by decide +kernel
theorem dX10_vote_205 : decode cX10_vote 205 = .ok (.iaload, 1) := by decide +kernel
theorem dX10_vote_206 : decode cX10_vote 206 = .ok (.aload_n 0, 1) := by decide +kernel
theorem dX10_vote_207 : decode cX10_vote 207 = .ok (.iload_n 2, 1) := by decide +kernel
theorem dX10_vote_208 : decode cX10_vote 208 = .ok (.invokevirtual 146, 3) := by decide +kernel
theorem dX10_vote_211 : decode cX10_vote 211 = .ok (.invokestatic 80, 3) := by decide +kernel
theorem dX10_vote_214 : decode cX10_vote 214 = .ok (.ifCond .ne 9, 3) := by decide +kernel
theorem dX10_vote_217 : decode cX10_vote 217 = .ok (.bipush (-20), 2) := by decide +kernel
theorem dX10_vote_219 : decode cX10_vote 219 = .ok (.iload 8, 2) := by decide +kernel
theorem dX10_vote_221 : decode cX10_vote 221 = .ok (.isub, 1) := by decide +kernel
theorem dX10_vote_222 : decode cX10_vote 222 = .ok (.ireturn, 1) := by decide +kernel
theorem dX10_vote_223 : decode cX10_vote 223 = .ok (.aload_n 0, 1) := by decide +kernel
theorem dX10_vote_224 : decode cX10_vote 224 = .ok (.iload 12, 2) := by decide +kernel
theorem dX10_vote_226 : decode cX10_vote 226 = .ok (.ifCond .eq 8, 3) := by decide +kernel
theorem dX10_vote_229 : decode cX10_vote 229 = .ok (.iload 10, 2) := by decide +kernel
theorem dX10_vote_231 : decode cX10_vote 231 = .ok (.goto 5, 3) := by decide +kernel
theorem dX10_vote_234 : decode cX10_vote 234 = .ok (.iload 9, 2) := by decide +kernel
theorem dX10_vote_236 : decode cX10_vote 236 = .ok (.sipush 520, 3) := by decide +kernel
theorem dX10_vote_239 : decode cX10_vote 239 = .ok (.iload 8, 2) := by decide +kernel
theorem dX10_vote_241 : decode cX10_vote 241 = .ok (.iadd, 1) := by decide +kernel
theorem dX10_vote_242 : decode cX10_vote 242 = .ok (.invokevirtual 229, 3) := by decide +kernel
theorem dX10_vote_245 : decode cX10_vote 245 = .ok (.iload 7, 2) := by decide +kernel
theorem dX10_vote_247 : decode cX10_vote 247 = .ok (.iload 11, 2) := by decide +kernel
theorem dX10_vote_249 : decode cX10_vote 249 = .ok (.ifCond .ne 12, 3) := by decide +kernel
theorem dX10_vote_252 : decode cX10_vote 252 = .ok (.iload 12, 2) := by decide +kernel
theorem dX10_vote_254 : decode cX10_vote 254 = .ok (.ifCond .ne 7, 3) := by decide +kernel
theorem dX10_vote_257 : decode cX10_vote 257 = .ok (.iconst 1, 1) := by decide +kernel
theorem dX10_vote_258 : decode cX10_vote 258 = .ok (.goto 4, 3) := by decide +kernel
theorem dX10_vote_261 : decode cX10_vote 261 = .ok (.iconst 0, 1) := by decide +kernel
theorem dX10_vote_262 : decode cX10_vote 262 = .ok (.invokestatic 200, 3) := by decide +kernel
theorem dX10_vote_265 : decode cX10_vote 265 = .ok (.iadd, 1) := by decide +kernel
theorem dX10_vote_266 : decode cX10_vote 266 = .ok (.istore 7, 2) := by decide +kernel
theorem dX10_vote_268 : decode cX10_vote 268 = .ok (.iinc 8 1, 3) := by decide +kernel
theorem dX10_vote_271 : decode cX10_vote 271 = .ok (.goto (-166), 3) := by decide +kernel
theorem dX10_vote_274 : decode cX10_vote 274 = .ok (.aload_n 0, 1) := by decide +kernel
theorem dX10_vote_275 : decode cX10_vote 275 = .ok (.iload_n 1, 1) := by decide +kernel
theorem dX10_vote_276 : decode cX10_vote 276 = .ok (.aload_n 0, 1) := by decide +kernel
theorem dX10_vote_277 : decode cX10_vote 277 = .ok (.iload_n 2, 1) := by decide +kernel
theorem dX10_vote_278 : decode cX10_vote 278 = .ok (.invokevirtual 146, 3) := by decide +kernel
theorem dX10_vote_281 : decode cX10_vote 281 = .ok (.iload 6, 2) := by decide +kernel
theorem dX10_vote_283 : decode cX10_vote 283 = .ok (.invokevirtual 293, 3) := by decide +kernel
theorem dX10_vote_286 : decode cX10_vote 286 = .ok (.iload 7, 2) := by decide +kernel
theorem dX10_vote_288 : decode cX10_vote 288 = .ok (.ireturn, 1) := by decide +kernel
theorem dX10_isPatchNumber_0 : decode cX10_isPatchNumber 0 = .ok (.iload_n 0, 1) := by decide +kernel
theorem dX10_isPatchNumber_1 : decode cX10_isPatchNumber 1 = .ok (.i2l, 1) := by decide +kernel
theorem dX10_isPatchNumber_2 : decode cX10_isPatchNumber 2 = .ok (.lconst 0, 1) := by decide +kernel
theorem dX10_isPatchNumber_3 : decode cX10_isPatchNumber 3 = .ok (.ldc2_w 207, 3) := by decide +kernel
theorem dX10_isPatchNumber_6 : decode cX10_isPatchNumber 6 = .ok (.invokestatic 72, 3) := by decide +kernel
theorem dX10_isPatchNumber_9 : decode cX10_isPatchNumber 9 = .ok (.ireturn, 1) := by decide +kernel
theorem dX10_patch_0 : decode cX10_patch 0 = .ok (.iload_n 1, 1) := by decide +kernel
theorem dX10_patch_1 : decode cX10_patch 1 = .ok (.invokestatic 300, 3) := by decide +kernel
theorem dX10_patch_4 : decode cX10_patch 4 = .ok (.ifCond .ne 5, 3) := by decide +kernel
theorem dX10_patch_7 : decode cX10_patch 7 = .ok (.iconst (-1), 1) := by decide +kernel
theorem dX10_patch_8 : decode cX10_patch 8 = .ok (.ireturn, 1) := by decide +kernel
theorem dX10_patch_9 : decode cX10_patch 9 = .ok (.aload_n 0, 1) := by decide +kernel
theorem dX10_patch_10 : decode cX10_patch 10 = .ok (.getfield 258, 3) := by decide +kernel
theorem dX10_patch_13 : decode cX10_patch 13 = .ok (.ifCond .ne 6, 3) := by decide +kernel
theorem dX10_patch_16 : decode cX10_patch 16 = .ok (.bipush (-2), 2) := by decide +kernel
theorem dX10_patch_18 : decode cX10_patch 18 = .ok (.ireturn, 1) := by decide +kernel
theorem dX10_patch_19 : decode cX10_patch 19 = .ok (.iconst 0, 1) := by decide +kernel
theorem dX10_patch_20 : decode cX10_patch 20 = .ok (.istore_n 2, 1) := by decide +kernel
theorem dX10_patch_21 : decode cX10_patch 21 = .ok (.iconst 0, 1) := by decide +kernel
theorem dX10_patch_22 : decode cX10_patch 22 = .ok (.istore_n 3, 1) := by decide +kernel
theorem dX10_patch_23 : decode cX10_patch 23 = .ok (.iload_n 3, 1) := by decide +kernel
theorem dX10_patch_24 : decode cX10_patch 24 = .ok (.aload_n 0, 1) := by decide +kernel
theorem dX10_patch_25 : decode cX10_patch 25 = .ok (.getfield 233, 3) := by decide +kernel
theorem dX10_patch_28 : decode cX10_patch 28 = .ok (.if_icmp .ge 147, 3) := by decide +kernel
theorem dX10_patch_31 : decode cX10_patch 31 = .ok (.bipush 40, 2) := by decide +kernel
theorem dX10_patch_33 : decode cX10_patch 33 = .ok (.iload_n 1, 1) := by decide +kernel
theorem dX10_patch_34 : decode cX10_patch 34 = .ok (.imul, 1) := by decide +kernel
theorem dX10_patch_35 : decode cX10_patch 35 = .ok (.iload_n 3, 1) := by decide +kernel
theorem dX10_patch_36 : decode cX10_patch 36 = .ok (.iadd, 1) := by decide +kernel
theorem dX10_patch_37 : decode cX10_patch 37 = .ok (.istore 4, 2) := by decide +kernel
theorem dX10_patch_39 : decode cX10_patch 39 = .ok (.aload_n 0, 1) := by decide +kernel
theorem dX10_patch_40 : decode cX10_patch 40 = .ok (.getfield 61, 3) := by decide +kernel
theorem dX10_patch_43 : decode cX10_patch 43 = .ok (.iload 4, 2) := by decide +kernel
theorem dX10_patch_45 : decode cX10_patch 45 = .ok (.aload_n 0, 1) := by decide +kernel
theorem dX10_patch_46 : decode cX10_patch 46 = .ok (.getfield 36, 3) := by decide +kernel
theorem dX10_patch_49 : decode cX10_patch 49 = .ok (.iload_n 3, 1) := by decide +kernel
theorem dX10_patch_50 : decode cX10_patch 50 = .ok (.iaload, 1) := by decide +kernel
theorem dX10_patch_51 : decode cX10_patch 51 = .ok (.ifCond .ne 19, 3) := by decide +kernel
theorem dX10_patch_54 : decode cX10_patch 54 = .ok (.aload_n 0, 1) := by decide +kernel
theorem dX10_patch_55 : decode cX10_patch 55 = .ok (.iload_n 3, 1) := by decide +kernel
theorem dX10_patch_56 : decode cX10_patch 56 = .ok (.invokevirtual 262, 3) := by decide +kernel
theorem dX10_patch_59 : decode cX10_patch 59 = .ok (.ifCond .ne 7, 3) := by decide +kernel
theorem dX10_patch_62 : decode cX10_patch 62 = .ok (.iconst 0, 1) := by decide +kernel
theorem dX10_patch_63 : decode cX10_patch 63 = .ok (.goto 22, 3) := by decide +kernel
theorem dX10_patch_66 : decode cX10_patch 66 = .ok (.iconst 1, 1) := by decide +kernel
theorem dX10_patch_67 : decode cX10_patch 67 = .ok (.goto 18, 3) := by decide +kernel
theorem dX10_patch_70 : decode cX10_patch 70 = .ok (.aload_n 0, 1) := by decide +kernel
theorem dX10_patch_71 : decode cX10_patch 71 = .ok (.getfield 36, 3) := by decide +kernel
theorem dX10_patch_74 : decode cX10_patch 74 = .ok (.iload_n 3, 1) := by decide +kernel
theorem dX10_patch_75 : decode cX10_patch 75 = .ok (.iaload, 1) := by decide +kernel
theorem dX10_patch_76 : decode cX10_patch 76 = .ok (.iconst 1, 1) := by decide +kernel
theorem dX10_patch_77 : decode cX10_patch 77 = .ok (.if_icmp .ne 7, 3) := by decide +kernel
theorem dX10_patch_80 : decode cX10_patch 80 = .ok (.iconst 2, 1) := by decide +kernel
theorem dX10_patch_81 : decode cX10_patch 81 = .ok (.goto 4, 3) := by decide +kernel
theorem dX10_patch_84 : decode cX10_patch 84 = .ok (.iconst 3, 1) := by decide +kernel
theorem dX10_patch_85 : decode cX10_patch 85 = .ok (.iastore, 1) := by decide +kernel
theorem dX10_patch_86 : decode cX10_patch 86 = .ok (.aload_n 0, 1) := by decide +kernel
theorem dX10_patch_87 : decode cX10_patch 87 = .ok (.getfield 61, 3) := by decide +kernel
theorem dX10_patch_90 : decode cX10_patch 90 = .ok (.iload 4, 2) := by decide +kernel
theorem dX10_patch_92 : decode cX10_patch 92 = .ok (.iaload, 1) := by decide +kernel
theorem dX10_patch_93 : decode cX10_patch 93 = .ok (.iconst 3, 1) := by decide +kernel
theorem dX10_patch_94 : decode cX10_patch 94 = .ok (.if_icmp .eq 23, 3) := by decide +kernel
theorem dX10_patch_97 : decode cX10_patch 97 = .ok (.aload_n 0, 1) := by decide +kernel
theorem dX10_patch_98 : decode cX10_patch 98 = .ok (.sipush 480, 3) := by decide +kernel
theorem dX10_patch_101 : decode cX10_patch 101 = .ok (.aload_n 0, 1) := by decide +kernel
theorem dX10_patch_102 : decode cX10_patch 102 = .ok (.getfield 39, 3) := by decide +kernel
theorem dX10_patch_105 : decode cX10_patch 105 = .ok (.iload_n 3, 1) := by decide +kernel
theorem dX10_patch_106 : decode cX10_patch 106 = .ok (.iaload, 1) := by decide +kernel
theorem dX10_patch_107 : decode cX10_patch 107 = .ok (.iadd, 1) := by decide +kernel
theorem dX10_patch_108 : decode cX10_patch 108 = .ok (.sipush 560, 3) := by decide +kernel
theorem dX10_patch_111 : decode cX10_patch 111 = .ok (.iload 4, 2) := by decide +kernel
theorem dX10_patch_113 : decode cX10_patch 113 = .ok (.iadd, 1) := by decide +kernel
theorem dX10_patch_114 : decode cX10_patch 114 = .ok (.invokevirtual 229, 3) := by decide +kernel
theorem dX10_patch_117 : decode cX10_patch 117 = .ok (.aload_n 0, 1) := by decide +kernel
theorem dX10_patch_118 : decode cX10_patch 118 = .ok (.getfield 61, 3) := by decide +kernel
theorem dX10_patch_121 : decode cX10_patch 121 = .ok (.iload 4, 2) := by decide +kernel
theorem dX10_patch_123 : decode cX10_patch 123 = .ok (.iaload, 1) := by decide +kernel
theorem dX10_patch_124 : decode cX10_patch 124 = .ok (.iconst 2, 1) := by decide +kernel
theorem dX10_patch_125 : decode cX10_patch 125 = .ok (.if_icmp .eq 23, 3) := by decide +kernel
theorem dX10_patch_128 : decode cX10_patch 128 = .ok (.aload_n 0, 1) := by decide +kernel
theorem dX10_patch_129 : decode cX10_patch 129 = .ok (.sipush 500, 3) := by decide +kernel
theorem dX10_patch_132 : decode cX10_patch 132 = .ok (.aload_n 0, 1) := by decide +kernel
theorem dX10_patch_133 : decode cX10_patch 133 = .ok (.getfield 42, 3) := by decide +kernel
theorem dX10_patch_136 : decode cX10_patch 136 = .ok (.iload_n 3, 1) := by decide +kernel
theorem dX10_patch_137 : decode cX10_patch 137 = .ok (.iaload, 1) := by decide +kernel
theorem dX10_patch_138 : decode cX10_patch 138 = .ok (.iadd, 1) := by decide +kernel
theorem dX10_patch_139 : decode cX10_patch 139 = .ok (.sipush 720, 3) := by decide +kernel
theorem dX10_patch_142 : decode cX10_patch 142 = .ok (.iload 4, 2) := by decide +kernel
theorem dX10_patch_144 : decode cX10_patch 144 = .ok (.iadd, 1) := by decide +kernel
theorem dX10_patch_145 : decode cX10_patch 145 = .ok (.invokevirtual 229, 3) := by decide +kernel
theorem dX10_patch_148 : decode cX10_patch 148 = .ok (.iload_n 2, 1) := by decide +kernel
theorem dX10_patch_149 : decode cX10_patch 149 = .ok (.aload_n 0, 1) := by decide +kernel
theorem dX10_patch_150 : decode cX10_patch 150 = .ok (.getfield 61, 3) := by decide +kernel
theorem dX10_patch_153 : decode cX10_patch 153 = .ok (.iload 4, 2) := by decide +kernel
theorem dX10_patch_155 : decode cX10_patch 155 = .ok (.iaload, 1) := by decide +kernel
theorem dX10_patch_156 : decode cX10_patch 156 = .ok (.ifCond .eq 7, 3) := by decide +kernel
theorem dX10_patch_159 : decode cX10_patch 159 = .ok (.iconst 1, 1) := by decide +kernel
theorem dX10_patch_160 : decode cX10_patch 160 = .ok (.goto 4, 3) := by decide +kernel
theorem dX10_patch_163 : decode cX10_patch 163 = .ok (.iconst 0, 1) := by decide +kernel
theorem dX10_patch_164 : decode cX10_patch 164 = .ok (.invokestatic 200, 3) := by decide +kernel
theorem dX10_patch_167 : decode cX10_patch 167 = .ok (.iadd, 1) := by decide +kernel
theorem dX10_patch_168 : decode cX10_patch 168 = .ok (.istore_n 2, 1) := by decide +kernel
theorem dX10_patch_169 : decode cX10_patch 169 = .ok (.iinc 3 1, 3) := by decide +kernel
theorem dX10_patch_172 : decode cX10_patch 172 = .ok (.goto (-149), 3) := by decide +kernel
theorem dX10_patch_175 : decode cX10_patch 175 = .ok (.aload_n 0, 1) := by decide +kernel
theorem dX10_patch_176 : decode cX10_patch 176 = .ok (.getfield 55, 3) := by decide +kernel
theorem dX10_patch_179 : decode cX10_patch 179 = .ok (.iload_n 1, 1) := by decide +kernel
theorem dX10_patch_180 : decode cX10_patch 180 = .ok (.iconst 1, 1) := by decide +kernel
theorem dX10_patch_181 : decode cX10_patch 181 = .ok (.bastore, 1) := by decide +kernel
theorem dX10_patch_182 : decode cX10_patch 182 = .ok (.aload_n 0, 1) := by decide +kernel
theorem dX10_patch_183 : decode cX10_patch 183 = .ok (.getfield 58, 3) := by decide +kernel
theorem dX10_patch_186 : decode cX10_patch 186 = .ok (.iload_n 1, 1) := by decide +kernel
theorem dX10_patch_187 : decode cX10_patch 187 = .ok (.aload_n 0, 1) := by decide +kernel
theorem dX10_patch_188 : decode cX10_patch 188 = .ok (.getfield 233, 3) := by decide +kernel
theorem dX10_patch_191 : decode cX10_patch 191 = .ok (.iastore, 1) := by decide +kernel
theorem dX10_patch_192 : decode cX10_patch 192 = .ok (.iload_n 2, 1) := by decide +kernel
theorem dX10_patch_193 : decode cX10_patch 193 = .ok (.ireturn, 1) := by decide +kernel
theorem dX10_turn_0 : decode cX10_turn 0 = .ok (.iload_n 1, 1) := by decide +kernel
theorem dX10_turn_1 : decode cX10_turn 1 = .ok (.invokestatic 300, 3) := by decide +kernel
theorem dX10_turn_4 : decode cX10_turn 4 = .ok (.ifCond .ne 5, 3) := by decide +kernel
theorem dX10_turn_7 : decode cX10_turn 7 = .ok (.iconst (-1), 1) := by decide +kernel
theorem dX10_turn_8 : decode cX10_turn 8 = .ok (.ireturn, 1) := by decide +kernel
theorem dX10_turn_9 : decode cX10_turn 9 = .ok (.aload_n 0, 1) := by decide +kernel
theorem dX10_turn_10 : decode cX10_turn 10 = .ok (.getfield 55, 3) := by decide +kernel
theorem dX10_turn_13 : decode cX10_turn 13 = .ok (.iload_n 1, 1) := by decide +kernel
theorem dX10_turn_14 : decode cX10_turn 14 = .ok (.baload, 1) := by decide +kernel
theorem dX10_turn_15 : decode cX10_turn 15 = .ok (.ifCond .ne 6, 3) := by decide +kernel
theorem dX10_turn_18 : decode cX10_turn 18 = .ok (.bipush (-2), 2) := by decide +kernel
theorem dX10_turn_20 : decode cX10_turn 20 = .ok (.ireturn, 1) := by decide +kernel
theorem dX10_turn_21 : decode cX10_turn 21 = .ok (.iconst 0, 1) := by decide +kernel
theorem dX10_turn_22 : decode cX10_turn 22 = .ok (.istore_n 2, 1) := by decide +kernel
theorem dX10_turn_23 : decode cX10_turn 23 = .ok (.iload_n 2, 1) := by decide +kernel
theorem dX10_turn_24 : decode cX10_turn 24 = .ok (.aload_n 0, 1) := by decide +kernel
theorem dX10_turn_25 : decode cX10_turn 25 = .ok (.getfield 58, 3) := by decide +kernel
theorem dX10_turn_28 : decode cX10_turn 28 = .ok (.iload_n 1, 1) := by decide +kernel
theorem dX10_turn_29 : decode cX10_turn 29 = .ok (.iaload, 1) := by decide +kernel
theorem dX10_turn_30 : decode cX10_turn 30 = .ok (.if_icmp .ge 94, 3) := by decide +kernel
theorem dX10_turn_33 : decode cX10_turn 33 = .ok (.bipush 40, 2) := by decide +kernel
theorem dX10_turn_35 : decode cX10_turn 35 = .ok (.iload_n 1, 1) := by decide +kernel
theorem dX10_turn_36 : decode cX10_turn 36 = .ok (.imul, 1) := by decide +kernel
theorem dX10_turn_37 : decode cX10_turn 37 = .ok (.iload_n 2, 1) := by decide +kernel
theorem dX10_turn_38 : decode cX10_turn 38 = .ok (.iadd, 1) := by decide +kernel
theorem dX10_turn_39 : decode cX10_turn 39 = .ok (.istore_n 3, 1) := by decide +kernel
theorem dX10_turn_40 : decode cX10_turn 40 = .ok (.aload_n 0, 1) := by decide +kernel
theorem dX10_turn_41 : decode cX10_turn 41 = .ok (.getfield 61, 3) := by decide +kernel
theorem dX10_turn_44 : decode cX10_turn 44 = .ok (.iload_n 3, 1) := by decide +kernel
theorem dX10_turn_45 : decode cX10_turn 45 = .ok (.aload_n 0, 1) := by decide +kernel
theorem dX10_turn_46 : decode cX10_turn 46 = .ok (.getfield 61, 3) := by decide +kernel
theorem dX10_turn_49 : decode cX10_turn 49 = .ok (.iload_n 3, 1) := by decide +kernel
theorem dX10_turn_50 : decode cX10_turn 50 = .ok (.iaload, 1) := by decide +kernel
theorem dX10_turn_51 : decode cX10_turn 51 = .ok (.iconst 2, 1) := by decide +kernel
theorem dX10_turn_52 : decode cX10_turn 52 = .ok (.if_icmp .ne 7, 3) := by decide +kernel
theorem dX10_turn_55 : decode cX10_turn 55 = .ok (.iconst 3, 1) := by decide +kernel
theorem dX10_turn_56 : decode cX10_turn 56 = .ok (.goto 23, 3) := by decide +kernel
theorem dX10_turn_59 : decode cX10_turn 59 = .ok (.aload_n 0, 1) := by decide +kernel
theorem dX10_turn_60 : decode cX10_turn 60 = .ok (.getfield 61, 3) := by decide +kernel
theorem dX10_turn_63 : decode cX10_turn 63 = .ok (.iload_n 3, 1) := by decide +kernel
theorem dX10_turn_64 : decode cX10_turn 64 = .ok (.iaload, 1) := by decide +kernel
theorem dX10_turn_65 : decode cX10_turn 65 = .ok (.iconst 3, 1) := by decide +kernel
theorem dX10_turn_66 : decode cX10_turn 66 = .ok (.if_icmp .ne 7, 3) := by decide +kernel
theorem dX10_turn_69 : decode cX10_turn 69 = .ok (.iconst 2, 1) := by decide +kernel
theorem dX10_turn_70 : decode cX10_turn 70 = .ok (.goto 9, 3) := by decide +kernel
theorem dX10_turn_73 : decode cX10_turn 73 = .ok (.aload_n 0, 1) := by decide +kernel
theorem dX10_turn_74 : decode cX10_turn 74 = .ok (.getfield 61, 3) := by decide +kernel
theorem dX10_turn_77 : decode cX10_turn 77 = .ok (.iload_n 3, 1) := by decide +kernel
theorem dX10_turn_78 : decode cX10_turn 78 = .ok (.iaload, 1) := by decide +kernel
theorem dX10_turn_79 : decode cX10_turn 79 = .ok (.iastore, 1) := by decide +kernel
theorem dX10_turn_80 : decode cX10_turn 80 = .ok (.aload_n 0, 1) := by decide +kernel
theorem dX10_turn_81 : decode cX10_turn 81 = .ok (.sipush 560, 3) := by decide +kernel
theorem dX10_turn_84 : decode cX10_turn 84 = .ok (.iload_n 3, 1) := by decide +kernel
theorem dX10_turn_85 : decode cX10_turn 85 = .ok (.iadd, 1) := by decide +kernel
theorem dX10_turn_86 : decode cX10_turn 86 = .ok (.sipush 520, 3) := by decide +kernel
theorem dX10_turn_89 : decode cX10_turn 89 = .ok (.invokevirtual 229, 3) := by decide +kernel
theorem dX10_turn_92 : decode cX10_turn 92 = .ok (.aload_n 0, 1) := by decide +kernel
theorem dX10_turn_93 : decode cX10_turn 93 = .ok (.sipush 720, 3) := by decide +kernel
theorem dX10_turn_96 : decode cX10_turn 96 = .ok (.iload_n 3, 1) := by decide +kernel
theorem dX10_turn_97 : decode cX10_turn 97 = .ok (.iadd, 1) := by decide +kernel
theorem dX10_turn_98 : decode cX10_turn 98 = .ok (.sipush 560, 3) := by decide +kernel
theorem dX10_turn_101 : decode cX10_turn 101 = .ok (.iload_n 3, 1) := by decide +kernel
theorem dX10_turn_102 : decode cX10_turn 102 = .ok (.iadd, 1) := by decide +kernel
theorem dX10_turn_103 : decode cX10_turn 103 = .ok (.invokevirtual 229, 3) := by decide +kernel
theorem dX10_turn_106 : decode cX10_turn 106 = .ok (.aload_n 0, 1) := by decide +kernel
theorem dX10_turn_107 : decode cX10_turn 107 = .ok (.sipush 520, 3) := by decide +kernel
theorem dX10_turn_110 : decode cX10_turn 110 = .ok (.sipush 720, 3) := by decide +kernel
theorem dX10_turn_113 : decode cX10_turn 113 = .ok (.iload_n 3, 1) := by decide +kernel
theorem dX10_turn_114 : decode cX10_turn 114 = .ok (.iadd, 1) := by decide +kernel
theorem dX10_turn_115 : decode cX10_turn 115 = .ok (.invokevirtual 229, 3) := by decide +kernel
theorem dX10_turn_118 : decode cX10_turn 118 = .ok (.iinc 2 1, 3) := by decide +kernel
theorem dX10_turn_121 : decode cX10_turn 121 = .ok (.goto (-98), 3) := by decide +kernel
theorem dX10_turn_124 : decode cX10_turn 124 = .ok (.aload_n 0, 1) := by decide +kernel
theorem dX10_turn_125 : decode cX10_turn 125 = .ok (.getfield 58, 3) := by decide +kernel
theorem dX10_turn_128 : decode cX10_turn 128 = .ok (.iload_n 1, 1) := by decide +kernel
theorem dX10_turn_129 : decode cX10_turn 129 = .ok (.iaload, 1) := by decide +kernel
theorem dX10_turn_130 : decode cX10_turn 130 = .ok (.ireturn, 1) := by decide +kernel
theorem dX10_act_0 : decode cX10_act 0 = .ok (.iload_n 1, 1) := by decide +kernel
theorem dX10_act_1 : decode cX10_act 1 = .ok (.invokestatic 300, 3) := by decide +kernel
theorem dX10_act_4 : decode cX10_act 4 = .ok (.ifCond .eq 19, 3) := by decide +kernel
theorem dX10_act_7 : decode cX10_act 7 = .ok (.iload_n 2, 1) := by decide +kernel
theorem dX10_act_8 : decode cX10_act 8 = .ok (.ifCond .lt 15, 3) := by decide +kernel
theorem dX10_act_11 : decode cX10_act 11 = .ok (.iload_n 3, 1) := by decide +kernel
theorem dX10_act_12 : decode cX10_act 12 = .ok (.i2l, 1) := by decide +kernel
theorem dX10_act_13 : decode cX10_act 13 = .ok (.lconst 0, 1) := by decide +kernel
theorem dX10_act_14 : decode cX10_act 14 = .ok (.ldc2_w 288, 3) := by decide +kernel
theorem dX10_act_17 : decode cX10_act 17 = .ok (.invokestatic 72, 3) := by decide +kernel
theorem dX10_act_20 : decode cX10_act 20 = .ok (.ifCond .ne 5, 3) := by decide +kernel
theorem dX10_act_23 : decode cX10_act 23 = .ok (.iconst (-1), 1) := by decide +kernel
theorem dX10_act_24 : decode cX10_act 24 = .ok (.ireturn, 1) := by decide +kernel
theorem dX10_act_25 : decode cX10_act 25 = .ok (.aload_n 0, 1) := by decide +kernel
theorem dX10_act_26 : decode cX10_act 26 = .ok (.getfield 55, 3) := by decide +kernel
theorem dX10_act_29 : decode cX10_act 29 = .ok (.iload_n 1, 1) := by decide +kernel
theorem dX10_act_30 : decode cX10_act 30 = .ok (.baload, 1) := by decide +kernel
theorem dX10_act_31 : decode cX10_act 31 = .ok (.ifCond .ne 6, 3) := by decide +kernel
theorem dX10_act_34 : decode cX10_act 34 = .ok (.bipush (-2), 2) := by decide +kernel
theorem dX10_act_36 : decode cX10_act 36 = .ok (.ireturn, 1) := by decide +kernel
theorem dX10_act_37 : decode cX10_act 37 = .ok (.iload_n 2, 1) := by decide +kernel
theorem dX10_act_38 : decode cX10_act 38 = .ok (.aload_n 0, 1) := by decide +kernel
theorem dX10_act_39 : decode cX10_act 39 = .ok (.getfield 58, 3) := by decide +kernel
theorem dX10_act_42 : decode cX10_act 42 = .ok (.iload_n 1, 1) := by decide +kernel
theorem dX10_act_43 : decode cX10_act 43 = .ok (.iaload, 1) := by decide +kernel
theorem dX10_act_44 : decode cX10_act 44 = .ok (.if_icmp .lt 6, 3) := by decide +kernel
theorem dX10_act_47 : decode cX10_act 47 = .ok (.bipush (-4), 2) := by decide +kernel
theorem dX10_act_49 : decode cX10_act 49 = .ok (.ireturn, 1) := by decide +kernel
theorem dX10_act_50 : decode cX10_act 50 = .ok (.bipush 40, 2) := by decide +kernel
theorem dX10_act_52 : decode cX10_act 52 = .ok (.iload_n 1, 1) := by decide +kernel
theorem dX10_act_53 : decode cX10_act 53 = .ok (.imul, 1) := by decide +kernel
theorem dX10_act_54 : decode cX10_act 54 = .ok (.iload_n 2, 1) := by decide +kernel
theorem dX10_act_55 : decode cX10_act 55 = .ok (.iadd, 1) := by decide +kernel
theorem dX10_act_56 : decode cX10_act 56 = .ok (.istore 4, 2) := by decide +kernel
theorem dX10_act_58 : decode cX10_act 58 = .ok (.iload_n 3, 1) := by decide +kernel
theorem dX10_act_59 : decode cX10_act 59 = .ok (.ifCond .ne 11, 3) := by decide +kernel
theorem dX10_act_62 : decode cX10_act 62 = .ok (.aload_n 0, 1) := by decide +kernel
theorem dX10_act_63 : decode cX10_act 63 = .ok (.getfield 61, 3) := by decide +kernel
theorem dX10_act_66 : decode cX10_act 66 = .ok (.iload 4, 2) := by decide +kernel
theorem dX10_act_68 : decode cX10_act 68 = .ok (.iaload, 1) := by decide +kernel
theorem dX10_act_69 : decode cX10_act 69 = .ok (.ireturn, 1) := by decide +kernel
theorem dX10_act_70 : decode cX10_act 70 = .ok (.aload_n 0, 1) := by decide +kernel
theorem dX10_act_71 : decode cX10_act 71 = .ok (.getfield 61, 3) := by decide +kernel
theorem dX10_act_74 : decode cX10_act 74 = .ok (.iload 4, 2) := by decide +kernel
theorem dX10_act_76 : decode cX10_act 76 = .ok (.iaload, 1) := by decide +kernel
theorem dX10_act_77 : decode cX10_act 77 = .ok (.iload_n 3, 1) := by decide +kernel
theorem dX10_act_78 : decode cX10_act 78 = .ok (.iconst 1, 1) := by decide +kernel
theorem dX10_act_79 : decode cX10_act 79 = .ok (.if_icmp .ne 7, 3) := by decide +kernel
theorem dX10_act_82 : decode cX10_act 82 = .ok (.iconst 3, 1) := by decide +kernel
theorem dX10_act_83 : decode cX10_act 83 = .ok (.goto 4, 3) := by decide +kernel
theorem dX10_act_86 : decode cX10_act 86 = .ok (.iconst 2, 1) := by decide +kernel
theorem dX10_act_87 : decode cX10_act 87 = .ok (.if_icmp .ne 8, 3) := by decide +kernel
theorem dX10_act_90 : decode cX10_act 90 = .ok (.bipush (-4), 2) := by decide +kernel
theorem dX10_act_92 : decode cX10_act 92 = .ok (.goto 25, 3) := by decide +kernel
theorem dX10_act_95 : decode cX10_act 95 = .ok (.aload_n 0, 1) := by decide +kernel
theorem dX10_act_96 : decode cX10_act 96 = .ok (.getfield 7, 3) := by decide +kernel
theorem dX10_act_99 : decode cX10_act 99 = .ok (.iload_n 3, 1) := by decide +kernel
theorem dX10_act_100 : decode cX10_act 100 = .ok (.iconst 1, 1) := by decide +kernel
theorem dX10_act_101 : decode cX10_act 101 = .ok (.if_icmp .ne 9, 3) := by decide +kernel
theorem dX10_act_104 : decode cX10_act 104 = .ok (.sipush 560, 3) := by decide +kernel
theorem dX10_act_107 : decode cX10_act 107 = .ok (.goto 6, 3) := by decide +kernel
theorem dX10_act_110 : decode cX10_act 110 = .ok (.sipush 720, 3) := by decide +kernel
theorem dX10_act_113 : decode cX10_act 113 = .ok (.iload 4, 2) := by decide +kernel
theorem dX10_act_115 : decode cX10_act 115 = .ok (.iadd, 1) := by decide +kernel
theorem dX10_act_116 : decode cX10_act 116 = .ok (.iaload, 1) := by decide +kernel
theorem dX10_act_117 : decode cX10_act 117 = .ok (.ireturn, 1) := by decide +kernel
theorem dX10_actFault_0 : decode cX10_actFault 0 = .ok (.aload_n 0, 1) := by decide +kernel
theorem dX10_actFault_1 : decode cX10_actFault 1 = .ok (.getfield 61, 3) := by decide +kernel
theorem dX10_actFault_4 : decode cX10_actFault 4 = .ok (.iload_n 1, 1) := by decide +kernel
theorem dX10_actFault_5 : decode cX10_actFault 5 = .ok (.iaload, 1) := by decide +kernel
theorem dX10_actFault_6 : decode cX10_actFault 6 = .ok (.iconst 3, 1) := by decide +kernel
theorem dX10_actFault_7 : decode cX10_actFault 7 = .ok (.if_icmp .eq 7, 3) := by decide +kernel
theorem dX10_actFault_10 : decode cX10_actFault 10 = .ok (.iconst 1, 1) := by decide +kernel
theorem dX10_actFault_11 : decode cX10_actFault 11 = .ok (.goto 4, 3) := by decide +kernel
theorem dX10_actFault_14 : decode cX10_actFault 14 = .ok (.iconst 0, 1) := by decide +kernel
theorem dX10_actFault_15 : decode cX10_actFault 15 = .ok (.istore_n 3, 1) := by decide +kernel
theorem dX10_actFault_16 : decode cX10_actFault 16 = .ok (.iload_n 3, 1) := by decide +kernel
theorem dX10_actFault_17 : decode cX10_actFault 17 = .ok (.ifCond .eq 17, 3) := by decide +kernel
theorem dX10_actFault_20 : decode cX10_actFault 20 = .ok (.aload_n 0, 1) := by decide +kernel
theorem dX10_actFault_21 : decode cX10_actFault 21 = .ok (.getfield 303, 3) := by decide +kernel
theorem dX10_actFault_24 : decode cX10_actFault 24 = .ok (.aload_n 0, 1) := by decide +kernel
theorem dX10_actFault_25 : decode cX10_actFault 25 = .ok (.iload_n 2, 1) := by decide +kernel
theorem dX10_actFault_26 : decode cX10_actFault 26 = .ok (.invokevirtual 152, 3) := by decide +kernel
theorem dX10_actFault_29 : decode cX10_actFault 29 = .ok (.if_icmp .lt 5, 3) := by decide +kernel
theorem dX10_actFault_32 : decode cX10_actFault 32 = .ok (.iconst 3, 1) := by decide +kernel
theorem dX10_actFault_33 : decode cX10_actFault 33 = .ok (.ireturn, 1) := by decide +kernel
theorem dX10_actFault_34 : decode cX10_actFault 34 = .ok (.iload_n 3, 1) := by decide +kernel
theorem dX10_actFault_35 : decode cX10_actFault 35 = .ok (.ifCond .eq 15, 3) := by decide +kernel
theorem dX10_actFault_38 : decode cX10_actFault 38 = .ok (.aload_n 0, 1) := by decide +kernel
theorem dX10_actFault_39 : decode cX10_actFault 39 = .ok (.iload_n 2, 1) := by decide +kernel
theorem dX10_actFault_40 : decode cX10_actFault 40 = .ok (.aload_n 0, 1) := by decide +kernel
theorem dX10_actFault_41 : decode cX10_actFault 41 = .ok (.getfield 303, 3) := by decide +kernel
theorem dX10_actFault_44 : decode cX10_actFault 44 = .ok (.invokevirtual 135, 3) := by decide +kernel
theorem dX10_actFault_47 : decode cX10_actFault 47 = .ok (.goto 5, 3) := by decide +kernel
theorem dX10_actFault_50 : decode cX10_actFault 50 = .ok (.bipush (-4), 2) := by decide +kernel
theorem dX10_actFault_52 : decode cX10_actFault 52 = .ok (.istore 4, 2) := by decide +kernel
theorem dX10_actFault_54 : decode cX10_actFault 54 = .ok (.aload_n 0, 1) := by decide +kernel
theorem dX10_actFault_55 : decode cX10_actFault 55 = .ok (.getfield 61, 3) := by decide +kernel
theorem dX10_actFault_58 : decode cX10_actFault 58 = .ok (.iload_n 1, 1) := by decide +kernel
theorem dX10_actFault_59 : decode cX10_actFault 59 = .ok (.iaload, 1) := by decide +kernel
theorem dX10_actFault_60 : decode cX10_actFault 60 = .ok (.iconst 1, 1) := by decide +kernel
theorem dX10_actFault_61 : decode cX10_actFault 61 = .ok (.if_icmp .eq 13, 3) := by decide +kernel
theorem dX10_actFault_64 : decode cX10_actFault 64 = .ok (.aload_n 0, 1) := by decide +kernel
theorem dX10_actFault_65 : decode cX10_actFault 65 = .ok (.getfield 61, 3) := by decide +kernel
theorem dX10_actFault_68 : decode cX10_actFault 68 = .ok (.iload_n 1, 1) := by decide +kernel
theorem dX10_actFault_69 : decode cX10_actFault 69 = .ok (.iaload, 1) := by decide +kernel
theorem dX10_actFault_70 : decode cX10_actFault 70 = .ok (.iconst 3, 1) := by decide +kernel
theorem dX10_actFault_71 : decode cX10_actFault 71 = .ok (.if_icmp .ne 7, 3) := by decide +kernel
theorem dX10_actFault_74 : decode cX10_actFault 74 = .ok (.iconst 1, 1) := by decide +kernel
theorem dX10_actFault_75 : decode cX10_actFault 75 = .ok (.goto 4, 3) := by decide +kernel
theorem dX10_actFault_78 : decode cX10_actFault 78 = .ok (.iconst 0, 1) := by decide +kernel
theorem dX10_actFault_79 : decode cX10_actFault 79 = .ok (.istore 5, 2) := by decide +kernel
theorem dX10_actFault_81 : decode cX10_actFault 81 = .ok (.aload_n 0, 1) := by decide +kernel
theorem dX10_actFault_82 : decode cX10_actFault 82 = .ok (.getfield 61, 3) := by decide +kernel
theorem dX10_actFault_85 : decode cX10_actFault 85 = .ok (.iload_n 1, 1) := by decide +kernel
theorem dX10_actFault_86 : decode cX10_actFault 86 = .ok (.iaload, 1) := by decide +kernel
theorem dX10_actFault_87 : decode cX10_actFault 87 = .ok (.iconst 1, 1) := by decide +kernel
theorem dX10_actFault_88 : decode cX10_actFault 88 = .ok (.if_icmp .eq 13, 3) := by decide +kernel
theorem dX10_actFault_91 : decode cX10_actFault 91 = .ok (.aload_n 0, 1) := by decide +kernel
theorem dX10_actFault_92 : decode cX10_actFault 92 = .ok (.getfield 61, 3) := by decide +kernel
theorem dX10_actFault_95 : decode cX10_actFault 95 = .ok (.iload_n 1, 1) := by decide +kernel
theorem dX10_actFault_96 : decode cX10_actFault 96 = .ok (.iaload, 1) := by decide +kernel
theorem dX10_actFault_97 : decode cX10_actFault 97 = .ok (.iconst 2, 1) := by decide +kernel
theorem dX10_actFault_98 : decode cX10_actFault 98 = .ok (.if_icmp .ne 20, 3) := by decide +kernel
theorem dX10_actFault_101 : decode cX10_actFault 101 = .ok (.aload_n 0, 1) := by decide +kernel
theorem dX10_actFault_102 : decode cX10_actFault 102 = .ok (.iload 4, 2) := by decide +kernel
theorem dX10_actFault_104 : decode cX10_actFault 104 = .ok (.sipush 560, 3) := by decide +kernel
theorem dX10_actFault_107 : decode cX10_actFault 107 = .ok (.iload_n 1, 1) := by decide +kernel
theorem dX10_actFault_108 : decode cX10_actFault 108 = .ok (.iadd, 1) := by decide +kernel
theorem dX10_actFault_109 : decode cX10_actFault 109 = .ok (.invokevirtual 112, 3) := by decide +kernel
theorem dX10_actFault_112 : decode cX10_actFault 112 = .ok (.ifCond .ne 6, 3) := by decide +kernel
theorem dX10_actFault_115 : decode cX10_actFault 115 = .ok (.bipush 7, 2) := by decide +kernel
theorem dX10_actFault_117 : decode cX10_actFault 117 = .ok (.ireturn, 1) := by decide +kernel
theorem dX10_actFault_118 : decode cX10_actFault 118 = .ok (.iload 5, 2) := by decide +kernel
theorem dX10_actFault_120 : decode cX10_actFault 120 = .ok (.ifCond .eq 26, 3) := by decide +kernel
theorem dX10_actFault_123 : decode cX10_actFault 123 = .ok (.aload_n 0, 1) := by decide +kernel
theorem dX10_actFault_124 : decode cX10_actFault 124 = .ok (.getfield 7, 3) := by decide +kernel
theorem dX10_actFault_127 : decode cX10_actFault 127 = .ok (.sipush 720, 3) := by decide +kernel
theorem dX10_actFault_130 : decode cX10_actFault 130 = .ok (.iload_n 1, 1) := by decide +kernel
theorem dX10_actFault_131 : decode cX10_actFault 131 = .ok (.iadd, 1) := by decide +kernel
theorem dX10_actFault_132 : decode cX10_actFault 132 = .ok (.iaload, 1) := by decide +kernel
theorem dX10_actFault_133 : decode cX10_actFault 133 = .ok (.aload_n 0, 1) := by decide +kernel
theorem dX10_actFault_134 : decode cX10_actFault 134 = .ok (.iload_n 2, 1) := by decide +kernel
theorem dX10_actFault_135 : decode cX10_actFault 135 = .ok (.invokevirtual 146, 3) := by decide +kernel
theorem dX10_actFault_138 : decode cX10_actFault 138 = .ok (.invokestatic 80, 3) := by decide +kernel
theorem dX10_actFault_141 : decode cX10_actFault 141 = .ok (.ifCond .ne 5, 3) := by decide +kernel
theorem dX10_actFault_144 : decode cX10_actFault 144 = .ok (.iconst 5, 1) := by decide +kernel
theorem dX10_actFault_145 : decode cX10_actFault 145 = .ok (.ireturn, 1) := by decide +kernel
theorem dX10_actFault_146 : decode cX10_actFault 146 = .ok (.aload_n 0, 1) := by decide +kernel
theorem dX10_actFault_147 : decode cX10_actFault 147 = .ok (.dup, 1) := by decide +kernel
theorem dX10_actFault_148 : decode cX10_actFault 148 = .ok (.getfield 303, 3) := by decide +kernel
theorem dX10_actFault_151 : decode cX10_actFault 151 = .ok (.iload_n 3, 1) := by decide +kernel
theorem dX10_actFault_152 : decode cX10_actFault 152 = .ok (.invokestatic 200, 3) := by decide +kernel
theorem dX10_actFault_155 : decode cX10_actFault 155 = .ok (.iadd, 1) := by decide +kernel
theorem dX10_actFault_156 : decode cX10_actFault 156 = .ok (.putfield 303, 3) := by decide +kernel
theorem dX10_actFault_159 : decode cX10_actFault 159 = .ok (.aload_n 0, 1) := by decide +kernel
theorem dX10_actFault_160 : decode cX10_actFault 160 = .ok (.getfield 61, 3) := by decide +kernel
theorem dX10_actFault_163 : decode cX10_actFault 163 = .ok (.iload_n 1, 1) := by decide +kernel
theorem dX10_actFault_164 : decode cX10_actFault 164 = .ok (.iaload, 1) := by decide +kernel
theorem dX10_actFault_165 : decode cX10_actFault 165 = .ok (.iconst 2, 1) := by decide +kernel
theorem dX10_actFault_166 : decode cX10_actFault 166 = .ok (.if_icmp .eq 40, 3) := by decide +kernel
theorem dX10_actFault_169 : decode cX10_actFault 169 = .ok (.aload_n 0, 1) := by decide +kernel
theorem dX10_actFault_170 : decode cX10_actFault 170 = .ok (.iload 5, 2) := by decide +kernel
theorem dX10_actFault_172 : decode cX10_actFault 172 = .ok (.ifCond .eq 11, 3) := by decide +kernel
theorem dX10_actFault_175 : decode cX10_actFault 175 = .ok (.sipush 720, 3) := by decide +kernel
theorem dX10_actFault_178 : decode cX10_actFault 178 = .ok (.iload_n 1, 1) := by decide +kernel
theorem dX10_actFault_179 : decode cX10_actFault 179 = .ok (.iadd, 1) := by decide +kernel
theorem dX10_actFault_180 : decode cX10_actFault 180 = .ok (.goto 5, 3) := by decide +kernel
theorem dX10_actFault_183 : decode cX10_actFault 183 = .ok (.iload 4, 2) := by decide +kernel
theorem dX10_actFault_185 : decode cX10_actFault 185 = .ok (.sipush 520, 3) := by decide +kernel
theorem dX10_actFault_188 : decode cX10_actFault 188 = .ok (.aload_n 0, 1) := by decide +kernel
theorem dX10_actFault_189 : decode cX10_actFault 189 = .ok (.getfield 306, 3) := by decide +kernel
theorem dX10_actFault_192 : decode cX10_actFault 192 = .ok (.iadd, 1) := by decide +kernel
theorem dX10_actFault_193 : decode cX10_actFault 193 = .ok (.invokevirtual 229, 3) := by decide +kernel
theorem dX10_actFault_196 : decode cX10_actFault 196 = .ok (.aload_n 0, 1) := by decide +kernel
theorem dX10_actFault_197 : decode cX10_actFault 197 = .ok (.dup, 1) := by decide +kernel
theorem dX10_actFault_198 : decode cX10_actFault 198 = .ok (.getfield 306, 3) := by decide +kernel
theorem dX10_actFault_201 : decode cX10_actFault 201 = .ok (.iconst 1, 1) := by decide +kernel
theorem dX10_actFault_202 : decode cX10_actFault 202 = .ok (.iadd, 1) := by decide +kernel
theorem dX10_actFault_203 : decode cX10_actFault 203 = .ok (.putfield 306, 3) := by decide +kernel
theorem dX10_actFault_206 : decode cX10_actFault 206 = .ok (.iconst 0, 1) := by decide +kernel
theorem dX10_actFault_207 : decode cX10_actFault 207 = .ok (.ireturn, 1) := by decide +kernel
theorem dX10_apply_0 : decode cX10_apply 0 = .ok (.iload_n 1, 1) := by decide +kernel
theorem dX10_apply_1 : decode cX10_apply 1 = .ok (.invokestatic 300, 3) := by decide +kernel
theorem dX10_apply_4 : decode cX10_apply 4 = .ok (.ifCond .eq 10, 3) := by decide +kernel
theorem dX10_apply_7 : decode cX10_apply 7 = .ok (.iload_n 2, 1) := by decide +kernel
theorem dX10_apply_8 : decode cX10_apply 8 = .ok (.invokestatic 141, 3) := by decide +kernel
theorem dX10_apply_11 : decode cX10_apply 11 = .ok (.ifCond .ne 5, 3) := by decide +kernel
theorem dX10_apply_14 : decode cX10_apply 14 = .ok (.iconst (-1), 1) := by decide +kernel
theorem dX10_apply_15 : decode cX10_apply 15 = .ok (.ireturn, 1) := by decide +kernel
theorem dX10_apply_16 : decode cX10_apply 16 = .ok (.aload_n 0, 1) := by decide +kernel
theorem dX10_apply_17 : decode cX10_apply 17 = .ok (.getfield 55, 3) := by decide +kernel
theorem dX10_apply_20 : decode cX10_apply 20 = .ok (.iload_n 1, 1) := by decide +kernel
theorem dX10_apply_21 : decode cX10_apply 21 = .ok (.baload, 1) := by decide +kernel
theorem dX10_apply_22 : decode cX10_apply 22 = .ok (.ifCond .ne 6, 3) := by decide +kernel
theorem dX10_apply_25 : decode cX10_apply 25 = .ok (.bipush (-2), 2) := by decide +kernel
theorem dX10_apply_27 : decode cX10_apply 27 = .ok (.ireturn, 1) := by decide +kernel
theorem dX10_apply_28 : decode cX10_apply 28 = .ok (.aload_n 0, 1) := by decide +kernel
theorem dX10_apply_29 : decode cX10_apply 29 = .ok (.iload_n 2, 1) := by decide +kernel
theorem dX10_apply_30 : decode cX10_apply 30 = .ok (.invokevirtual 124, 3) := by decide +kernel
theorem dX10_apply_33 : decode cX10_apply 33 = .ok (.ifCond .le 12, 3) := by decide +kernel
theorem dX10_apply_36 : decode cX10_apply 36 = .ok (.bipush (-10), 2) := by decide +kernel
theorem dX10_apply_38 : decode cX10_apply 38 = .ok (.aload_n 0, 1) := by decide +kernel
theorem dX10_apply_39 : decode cX10_apply 39 = .ok (.iload_n 2, 1) := by decide +kernel
theorem dX10_apply_40 : decode cX10_apply 40 = .ok (.invokevirtual 124, 3) := by decide +kernel
theorem dX10_apply_43 : decode cX10_apply 43 = .ok (.isub, 1) := by decide +kernel
theorem dX10_apply_44 : decode cX10_apply 44 = .ok (.ireturn, 1) := by decide +kernel
theorem dX10_apply_45 : decode cX10_apply 45 = .ok (.aload_n 0, 1) := by decide +kernel
theorem dX10_apply_46 : decode cX10_apply 46 = .ok (.iconst 0, 1) := by decide +kernel
theorem dX10_apply_47 : decode cX10_apply 47 = .ok (.putfield 303, 3) := by decide +kernel
theorem dX10_apply_50 : decode cX10_apply 50 = .ok (.aload_n 0, 1) := by decide +kernel
theorem dX10_apply_51 : decode cX10_apply 51 = .ok (.iconst 0, 1) := by decide +kernel
theorem dX10_apply_52 : decode cX10_apply 52 = .ok (.putfield 306, 3) := by decide +kernel
theorem dX10_apply_55 : decode cX10_apply 55 = .ok (.iconst 0, 1) := by decide +kernel
theorem dX10_apply_56 : decode cX10_apply 56 = .ok (.istore_n 3, 1) := by decide +kernel
theorem dX10_apply_57 : decode cX10_apply 57 = .ok (.iload_n 3, 1) := by decide +kernel
theorem dX10_apply_58 : decode cX10_apply 58 = .ok (.aload_n 0, 1) := by decide +kernel
theorem dX10_apply_59 : decode cX10_apply 59 = .ok (.getfield 58, 3) := by decide +kernel
theorem dX10_apply_62 : decode cX10_apply 62 = .ok (.iload_n 1, 1) := by decide +kernel
theorem dX10_apply_63 : decode cX10_apply 63 = .ok (.iaload, 1) := by decide +kernel
theorem dX10_apply_64 : decode cX10_apply 64 = .ok (.if_icmp .ge 38, 3) := by decide +kernel
theorem dX10_apply_67 : decode cX10_apply 67 = .ok (.aload_n 0, 1) := by decide +kernel
theorem dX10_apply_68 : decode cX10_apply 68 = .ok (.bipush 40, 2) := by decide +kernel
theorem dX10_apply_70 : decode cX10_apply 70 = .ok (.iload_n 1, 1) := by decide +kernel
theorem dX10_apply_71 : decode cX10_apply 71 = .ok (.imul, 1) := by decide +kernel
theorem dX10_apply_72 : decode cX10_apply 72 = .ok (.iload_n 3, 1) := by decide +kernel
theorem dX10_apply_73 : decode cX10_apply 73 = .ok (.iadd, 1) := by decide +kernel
theorem dX10_apply_74 : decode cX10_apply 74 = .ok (.iload_n 2, 1) := by decide +kernel
theorem dX10_apply_75 : decode cX10_apply 75 = .ok (.invokevirtual 309, 3) := by decide +kernel
theorem dX10_apply_78 : decode cX10_apply 78 = .ok (.istore 4, 2) := by decide +kernel
theorem dX10_apply_80 : decode cX10_apply 80 = .ok (.iload 4, 2) := by decide +kernel
theorem dX10_apply_82 : decode cX10_apply 82 = .ok (.ifCond .le 14, 3) := by decide +kernel
theorem dX10_apply_85 : decode cX10_apply 85 = .ok (.aload_n 0, 1) := by decide +kernel
theorem dX10_apply_86 : decode cX10_apply 86 = .ok (.iload 4, 2) := by decide +kernel
theorem dX10_apply_88 : decode cX10_apply 88 = .ok (.putfield 192, 3) := by decide +kernel
theorem dX10_apply_91 : decode cX10_apply 91 = .ok (.bipush (-20), 2) := by decide +kernel
theorem dX10_apply_93 : decode cX10_apply 93 = .ok (.iload_n 3, 1) := by decide +kernel
theorem dX10_apply_94 : decode cX10_apply 94 = .ok (.isub, 1) := by decide +kernel
theorem dX10_apply_95 : decode cX10_apply 95 = .ok (.ireturn, 1) := by decide +kernel
theorem dX10_apply_96 : decode cX10_apply 96 = .ok (.iinc 3 1, 3) := by decide +kernel
theorem dX10_apply_99 : decode cX10_apply 99 = .ok (.goto (-42), 3) := by decide +kernel
theorem dX10_apply_102 : decode cX10_apply 102 = .ok (.aload_n 0, 1) := by decide +kernel
theorem dX10_apply_103 : decode cX10_apply 103 = .ok (.getfield 303, 3) := by decide +kernel
theorem dX10_apply_106 : decode cX10_apply 106 = .ok (.aload_n 0, 1) := by decide +kernel
theorem dX10_apply_107 : decode cX10_apply 107 = .ok (.iload_n 2, 1) := by decide +kernel
theorem dX10_apply_108 : decode cX10_apply 108 = .ok (.invokevirtual 152, 3) := by decide +kernel
theorem dX10_apply_111 : decode cX10_apply 111 = .ok (.if_icmp .ge 18, 3) := by decide +kernel
theorem dX10_apply_114 : decode cX10_apply 114 = .ok (.aload_n 0, 1) := by decide +kernel
theorem dX10_apply_115 : decode cX10_apply 115 = .ok (.iconst 3, 1) := by decide +kernel
theorem dX10_apply_116 : decode cX10_apply 116 = .ok (.putfield 192, 3) := by decide +kernel
theorem dX10_apply_119 : decode cX10_apply 119 = .ok (.bipush (-20), 2) := by decide +kernel
theorem dX10_apply_121 : decode cX10_apply 121 = .ok (.aload_n 0, 1) := by decide +kernel
theorem dX10_apply_122 : decode cX10_apply 122 = .ok (.getfield 58, 3) := by decide +kernel
theorem dX10_apply_125 : decode cX10_apply 125 = .ok (.iload_n 1, 1) := by decide +kernel
theorem dX10_apply_126 : decode cX10_apply 126 = .ok (.iaload, 1) := by decide +kernel
theorem dX10_apply_127 : decode cX10_apply 127 = .ok (.isub, 1) := by decide +kernel
theorem dX10_apply_128 : decode cX10_apply 128 = .ok (.ireturn, 1) := by decide +kernel
theorem dX10_apply_129 : decode cX10_apply 129 = .ok (.aload_n 0, 1) := by decide +kernel
theorem dX10_apply_130 : decode cX10_apply 130 = .ok (.iload_n 2, 1) := by decide +kernel
theorem dX10_apply_131 : decode cX10_apply 131 = .ok (.aload_n 0, 1) := by decide +kernel
theorem dX10_apply_132 : decode cX10_apply 132 = .ok (.iload_n 2, 1) := by decide +kernel
theorem dX10_apply_133 : decode cX10_apply 133 = .ok (.invokevirtual 146, 3) := by decide +kernel
theorem dX10_apply_136 : decode cX10_apply 136 = .ok (.aload_n 0, 1) := by decide +kernel
theorem dX10_apply_137 : decode cX10_apply 137 = .ok (.getfield 306, 3) := by decide +kernel
theorem dX10_apply_140 : decode cX10_apply 140 = .ok (.invokevirtual 293, 3) := by decide +kernel
theorem dX10_apply_143 : decode cX10_apply 143 = .ok (.aload_n 0, 1) := by decide +kernel
theorem dX10_apply_144 : decode cX10_apply 144 = .ok (.iconst 0, 1) := by decide +kernel
theorem dX10_apply_145 : decode cX10_apply 145 = .ok (.putfield 192, 3) := by decide +kernel
theorem dX10_apply_148 : decode cX10_apply 148 = .ok (.aload_n 0, 1) := by decide +kernel
theorem dX10_apply_149 : decode cX10_apply 149 = .ok (.getfield 306, 3) := by decide +kernel
theorem dX10_apply_152 : decode cX10_apply 152 = .ok (.ireturn, 1) := by decide +kernel
theorem dX10_strays_0 : decode cX10_strays 0 = .ok (.aload_n 0, 1) := by decide +kernel
theorem dX10_strays_1 : decode cX10_strays 1 = .ok (.getfield 7, 3) := by decide +kernel
theorem dX10_strays_4 : decode cX10_strays 4 = .ok (.iload_n 1, 1) := by decide +kernel
theorem dX10_strays_5 : decode cX10_strays 5 = .ok (.iaload, 1) := by decide +kernel
theorem dX10_strays_6 : decode cX10_strays 6 = .ok (.istore_n 2, 1) := by decide +kernel
theorem dX10_strays_7 : decode cX10_strays 7 = .ok (.aload_n 0, 1) := by decide +kernel
theorem dX10_strays_8 : decode cX10_strays 8 = .ok (.getfield 13, 3) := by decide +kernel
theorem dX10_strays_11 : decode cX10_strays 11 = .ok (.iload_n 1, 1) := by decide +kernel
theorem dX10_strays_12 : decode cX10_strays 12 = .ok (.laload, 1) := by decide +kernel
theorem dX10_strays_13 : decode cX10_strays 13 = .ok (.lconst 1, 1) := by decide +kernel
theorem dX10_strays_14 : decode cX10_strays 14 = .ok (.ladd, 1) := by decide +kernel
theorem dX10_strays_15 : decode cX10_strays 15 = .ok (.lstore_n 3, 1) := by decide +kernel
theorem dX10_strays_16 : decode cX10_strays 16 = .ok (.iload_n 2, 1) := by decide +kernel
theorem dX10_strays_17 : decode cX10_strays 17 = .ok (.tableswitch 141 0 6 #[43, 60, 73, 87, 100, 112, 122], 43) := by decide +kernel
theorem dX10_strays_60 : decode cX10_strays 60 = .ok (.aload_n 0, 1) := by decide +kernel
theorem dX10_strays_61 : decode cX10_strays 61 = .ok (.getfield 13, 3) := by decide +kernel
theorem dX10_strays_64 : decode cX10_strays 64 = .ok (.iload_n 1, 1) := by decide +kernel
theorem dX10_strays_65 : decode cX10_strays 65 = .ok (.lconst 1, 1) := by decide +kernel
theorem dX10_strays_66 : decode cX10_strays 66 = .ok (.aload_n 0, 1) := by decide +kernel
theorem dX10_strays_67 : decode cX10_strays 67 = .ok (.getfield 13, 3) := by decide +kernel
theorem dX10_strays_70 : decode cX10_strays 70 = .ok (.iload_n 1, 1) := by decide +kernel
theorem dX10_strays_71 : decode cX10_strays 71 = .ok (.laload, 1) := by decide +kernel
theorem dX10_strays_72 : decode cX10_strays 72 = .ok (.lsub, 1) := by decide +kernel
theorem dX10_strays_73 : decode cX10_strays 73 = .ok (.lastore, 1) := by decide +kernel
theorem dX10_strays_74 : decode cX10_strays 74 = .ok (.goto 98, 3) := by decide +kernel
theorem dX10_strays_77 : decode cX10_strays 77 = .ok (.aload_n 0, 1) := by decide +kernel
theorem dX10_strays_78 : decode cX10_strays 78 = .ok (.getfield 13, 3) := by decide +kernel
theorem dX10_strays_81 : decode cX10_strays 81 = .ok (.iload_n 1, 1) := by decide +kernel
theorem dX10_strays_82 : decode cX10_strays 82 = .ok (.lload_n 3, 1) := by decide +kernel
theorem dX10_strays_83 : decode cX10_strays 83 = .ok (.l2i, 1) := by decide +kernel
theorem dX10_strays_84 : decode cX10_strays 84 = .ok (.i2b, 1) := by decide +kernel
theorem dX10_strays_85 : decode cX10_strays 85 = .ok (.i2l, 1) := by decide +kernel
theorem dX10_strays_86 : decode cX10_strays 86 = .ok (.lastore, 1) := by decide +kernel
theorem dX10_strays_87 : decode cX10_strays 87 = .ok (.goto 85, 3) := by decide +kernel
theorem dX10_strays_90 : decode cX10_strays 90 = .ok (.aload_n 0, 1) := by decide +kernel
theorem dX10_strays_91 : decode cX10_strays 91 = .ok (.getfield 13, 3) := by decide +kernel
theorem dX10_strays_94 : decode cX10_strays 94 = .ok (.iload_n 1, 1) := by decide +kernel
theorem dX10_strays_95 : decode cX10_strays 95 = .ok (.lload_n 3, 1) := by decide +kernel
theorem dX10_strays_96 : decode cX10_strays 96 = .ok (.ldc2_w 312, 3) := by decide +kernel
theorem dX10_strays_99 : decode cX10_strays 99 = .ok (.land, 1) := by decide +kernel
theorem dX10_strays_100 : decode cX10_strays 100 = .ok (.lastore, 1) := by decide +kernel
theorem dX10_strays_101 : decode cX10_strays 101 = .ok (.goto 71, 3) := by decide +kernel
theorem dX10_strays_104 : decode cX10_strays 104 = .ok (.aload_n 0, 1) := by decide +kernel
theorem dX10_strays_105 : decode cX10_strays 105 = .ok (.getfield 13, 3) := by decide +kernel
theorem dX10_strays_108 : decode cX10_strays 108 = .ok (.iload_n 1, 1) := by decide +kernel
theorem dX10_strays_109 : decode cX10_strays 109 = .ok (.lload_n 3, 1) := by decide +kernel
theorem dX10_strays_110 : decode cX10_strays 110 = .ok (.l2i, 1) := by decide +kernel
theorem dX10_strays_111 : decode cX10_strays 111 = .ok (.i2s, 1) := by decide +kernel
theorem dX10_strays_112 : decode cX10_strays 112 = .ok (.i2l, 1) := by decide +kernel
theorem dX10_strays_113 : decode cX10_strays 113 = .ok (.lastore, 1) := by decide +kernel
theorem dX10_strays_114 : decode cX10_strays 114 = .ok (.goto 58, 3) := by decide +kernel
theorem dX10_strays_117 : decode cX10_strays 117 = .ok (.aload_n 0, 1) := by decide +kernel
theorem dX10_strays_118 : decode cX10_strays 118 = .ok (.getfield 13, 3) := by decide +kernel
theorem dX10_strays_121 : decode cX10_strays 121 = .ok (.iload_n 1, 1) := by decide +kernel
theorem dX10_strays_122 : decode cX10_strays 122 = .ok (.lload_n 3, 1) := by decide +kernel
theorem dX10_strays_123 : decode cX10_strays 123 = .ok (.l2i, 1) := by decide +kernel
theorem dX10_strays_124 : decode cX10_strays 124 = .ok (.i2l, 1) := by decide +kernel
theorem dX10_strays_125 : decode cX10_strays 125 = .ok (.lastore, 1) := by decide +kernel
theorem dX10_strays_126 : decode cX10_strays 126 = .ok (.goto 46, 3) := by decide +kernel
theorem dX10_strays_129 : decode cX10_strays 129 = .ok (.aload_n 0, 1) := by decide +kernel
theorem dX10_strays_130 : decode cX10_strays 130 = .ok (.getfield 13, 3) := by decide +kernel
theorem dX10_strays_133 : decode cX10_strays 133 = .ok (.iload_n 1, 1) := by decide +kernel
theorem dX10_strays_134 : decode cX10_strays 134 = .ok (.lload_n 3, 1) := by decide +kernel
theorem dX10_strays_135 : decode cX10_strays 135 = .ok (.lastore, 1) := by decide +kernel
theorem dX10_strays_136 : decode cX10_strays 136 = .ok (.goto 36, 3) := by decide +kernel
theorem dX10_strays_139 : decode cX10_strays 139 = .ok (.aload_n 0, 1) := by decide +kernel
theorem dX10_strays_140 : decode cX10_strays 140 = .ok (.getfield 17, 3) := by decide +kernel
theorem dX10_strays_143 : decode cX10_strays 143 = .ok (.iload_n 1, 1) := by decide +kernel
theorem dX10_strays_144 : decode cX10_strays 144 = .ok (.aload_n 0, 1) := by decide +kernel
theorem dX10_strays_145 : decode cX10_strays 145 = .ok (.getfield 17, 3) := by decide +kernel
theorem dX10_strays_148 : decode cX10_strays 148 = .ok (.iload_n 1, 1) := by decide +kernel
theorem dX10_strays_149 : decode cX10_strays 149 = .ok (.daload, 1) := by decide +kernel
theorem dX10_strays_150 : decode cX10_strays 150 = .ok (.d2f, 1) := by decide +kernel
theorem dX10_strays_151 : decode cX10_strays 151 = .ok (.fconst 1, 1) := by decide +kernel
theorem dX10_strays_152 : decode cX10_strays 152 = .ok (.fadd, 1) := by decide +kernel
theorem dX10_strays_153 : decode cX10_strays 153 = .ok (.f2d, 1) := by decide +kernel
theorem dX10_strays_154 : decode cX10_strays 154 = .ok (.dastore, 1) := by decide +kernel
theorem dX10_strays_155 : decode cX10_strays 155 = .ok (.goto 17, 3) := by decide +kernel
theorem dX10_strays_158 : decode cX10_strays 158 = .ok (.aload_n 0, 1) := by decide +kernel
theorem dX10_strays_159 : decode cX10_strays 159 = .ok (.getfield 17, 3) := by decide +kernel
theorem dX10_strays_162 : decode cX10_strays 162 = .ok (.iload_n 1, 1) := by decide +kernel
theorem dX10_strays_163 : decode cX10_strays 163 = .ok (.aload_n 0, 1) := by decide +kernel
theorem dX10_strays_164 : decode cX10_strays 164 = .ok (.getfield 17, 3) := by decide +kernel
theorem dX10_strays_167 : decode cX10_strays 167 = .ok (.iload_n 1, 1) := by decide +kernel
theorem dX10_strays_168 : decode cX10_strays 168 = .ok (.daload, 1) := by decide +kernel
theorem dX10_strays_169 : decode cX10_strays 169 = .ok (.dconst 1, 1) := by decide +kernel
theorem dX10_strays_170 : decode cX10_strays 170 = .ok (.dadd, 1) := by decide +kernel
theorem dX10_strays_171 : decode cX10_strays 171 = .ok (.dastore, 1) := by decide +kernel
theorem dX10_strays_172 : decode cX10_strays 172 = .ok (.return_, 1) := by decide +kernel
theorem dX10_log_0 : decode cX10_log 0 = .ok (.iload_n 1, 1) := by decide +kernel
theorem dX10_log_1 : decode cX10_log 1 = .ok (.invokestatic 141, 3) := by decide +kernel
theorem dX10_log_4 : decode cX10_log 4 = .ok (.ifCond .eq 17, 3) := by decide +kernel
theorem dX10_log_7 : decode cX10_log 7 = .ok (.iload_n 2, 1) := by decide +kernel
theorem dX10_log_8 : decode cX10_log 8 = .ok (.invokestatic 141, 3) := by decide +kernel
theorem dX10_log_11 : decode cX10_log 11 = .ok (.ifCond .eq 10, 3) := by decide +kernel
theorem dX10_log_14 : decode cX10_log 14 = .ok (.iload_n 3, 1) := by decide +kernel
theorem dX10_log_15 : decode cX10_log 15 = .ok (.invokestatic 159, 3) := by decide +kernel
theorem dX10_log_18 : decode cX10_log 18 = .ok (.ifCond .ne 5, 3) := by decide +kernel
theorem dX10_log_21 : decode cX10_log 21 = .ok (.iconst (-1), 1) := by decide +kernel
theorem dX10_log_22 : decode cX10_log 22 = .ok (.ireturn, 1) := by decide +kernel
theorem dX10_log_23 : decode cX10_log 23 = .ok (.aload_n 0, 1) := by decide +kernel
theorem dX10_log_24 : decode cX10_log 24 = .ok (.iload_n 2, 1) := by decide +kernel
theorem dX10_log_25 : decode cX10_log 25 = .ok (.invokevirtual 124, 3) := by decide +kernel
theorem dX10_log_28 : decode cX10_log 28 = .ok (.istore 5, 2) := by decide +kernel
theorem dX10_log_30 : decode cX10_log 30 = .ok (.iload 5, 2) := by decide +kernel
theorem dX10_log_32 : decode cX10_log 32 = .ok (.ifCond .le 8, 3) := by decide +kernel
theorem dX10_log_35 : decode cX10_log 35 = .ok (.iload 5, 2) := by decide +kernel
theorem dX10_log_37 : decode cX10_log 37 = .ok (.goto 34, 3) := by decide +kernel
theorem dX10_log_40 : decode cX10_log 40 = .ok (.aload_n 0, 1) := by decide +kernel
theorem dX10_log_41 : decode cX10_log 41 = .ok (.iload_n 2, 1) := by decide +kernel
theorem dX10_log_42 : decode cX10_log 42 = .ok (.invokevirtual 146, 3) := by decide +kernel
theorem dX10_log_45 : decode cX10_log 45 = .ok (.bipush 7, 2) := by decide +kernel
theorem dX10_log_47 : decode cX10_log 47 = .ok (.if_icmp .le 7, 3) := by decide +kernel
theorem dX10_log_50 : decode cX10_log 50 = .ok (.iconst 4, 1) := by decide +kernel
theorem dX10_log_51 : decode cX10_log 51 = .ok (.goto 20, 3) := by decide +kernel
theorem dX10_log_54 : decode cX10_log 54 = .ok (.aload_n 0, 1) := by decide +kernel
theorem dX10_log_55 : decode cX10_log 55 = .ok (.iload_n 2, 1) := by decide +kernel
theorem dX10_log_56 : decode cX10_log 56 = .ok (.invokevirtual 146, 3) := by decide +kernel
theorem dX10_log_59 : decode cX10_log 59 = .ok (.iload_n 3, 1) := by decide +kernel
theorem dX10_log_60 : decode cX10_log 60 = .ok (.invokestatic 80, 3) := by decide +kernel
theorem dX10_log_63 : decode cX10_log 63 = .ok (.ifCond .eq 7, 3) := by decide +kernel
theorem dX10_log_66 : decode cX10_log 66 = .ok (.iconst 0, 1) := by decide +kernel
theorem dX10_log_67 : decode cX10_log 67 = .ok (.goto 4, 3) := by decide +kernel
theorem dX10_log_70 : decode cX10_log 70 = .ok (.iconst 5, 1) := by decide +kernel
theorem dX10_log_71 : decode cX10_log 71 = .ok (.istore 5, 2) := by decide +kernel
theorem dX10_log_73 : decode cX10_log 73 = .ok (.iload 5, 2) := by decide +kernel
theorem dX10_log_75 : decode cX10_log 75 = .ok (.ifCond .le 9, 3) := by decide +kernel
theorem dX10_log_78 : decode cX10_log 78 = .ok (.bipush (-10), 2) := by decide +kernel
theorem dX10_log_80 : decode cX10_log 80 = .ok (.iload 5, 2) := by decide +kernel
theorem dX10_log_82 : decode cX10_log 82 = .ok (.isub, 1) := by decide +kernel
theorem dX10_log_83 : decode cX10_log 83 = .ok (.ireturn, 1) := by decide +kernel
theorem dX10_log_84 : decode cX10_log 84 = .ok (.iload 4, 2) := by decide +kernel
theorem dX10_log_86 : decode cX10_log 86 = .ok (.istore 6, 2) := by decide +kernel
theorem dX10_log_88 : decode cX10_log 88 = .ok (.iconst 0, 1) := by decide +kernel
theorem dX10_log_89 : decode cX10_log 89 = .ok (.istore 7, 2) := by decide +kernel
theorem dX10_log_91 : decode cX10_log 91 = .ok (.iconst 0, 1) := by decide +kernel
theorem dX10_log_92 : decode cX10_log 92 = .ok (.istore 8, 2) := by decide +kernel
theorem dX10_log_94 : decode cX10_log 94 = .ok (.iload 8, 2) := by decide +kernel
theorem dX10_log_96 : decode cX10_log 96 = .ok (.aload_n 0, 1) := by decide +kernel
theorem dX10_log_97 : decode cX10_log 97 = .ok (.iload_n 2, 1) := by decide +kernel
theorem dX10_log_98 : decode cX10_log 98 = .ok (.invokevirtual 152, 3) := by decide +kernel
theorem dX10_log_101 : decode cX10_log 101 = .ok (.if_icmp .ge 107, 3) := by decide +kernel
theorem dX10_log_104 : decode cX10_log 104 = .ok (.iload 6, 2) := by decide +kernel
theorem dX10_log_106 : decode cX10_log 106 = .ok (.ldc_w 314, 3) := by decide +kernel
theorem dX10_log_109 : decode cX10_log 109 = .ok (.imul, 1) := by decide +kernel
theorem dX10_log_110 : decode cX10_log 110 = .ok (.sipush 12345, 3) := by decide +kernel
theorem dX10_log_113 : decode cX10_log 113 = .ok (.iadd, 1) := by decide +kernel
theorem dX10_log_114 : decode cX10_log 114 = .ok (.istore 6, 2) := by decide +kernel
theorem dX10_log_116 : decode cX10_log 116 = .ok (.iload 6, 2) := by decide +kernel
theorem dX10_log_118 : decode cX10_log 118 = .ok (.bipush 16, 2) := by decide +kernel
theorem dX10_log_120 : decode cX10_log 120 = .ok (.ishr, 1) := by decide +kernel
theorem dX10_log_121 : decode cX10_log 121 = .ok (.sipush 32767, 3) := by decide +kernel
theorem dX10_log_124 : decode cX10_log 124 = .ok (.iand, 1) := by decide +kernel
theorem dX10_log_125 : decode cX10_log 125 = .ok (.bipush 8, 2) := by decide +kernel
theorem dX10_log_127 : decode cX10_log 127 = .ok (.irem, 1) := by decide +kernel
theorem dX10_log_128 : decode cX10_log 128 = .ok (.istore 9, 2) := by decide +kernel
theorem dX10_log_130 : decode cX10_log 130 = .ok (.iconst 0, 1) := by decide +kernel
theorem dX10_log_131 : decode cX10_log 131 = .ok (.istore 10, 2) := by decide +kernel
theorem dX10_log_133 : decode cX10_log 133 = .ok (.iload 10, 2) := by decide +kernel
theorem dX10_log_135 : decode cX10_log 135 = .ok (.iload 9, 2) := by decide +kernel
theorem dX10_log_137 : decode cX10_log 137 = .ok (.ifCond .ne 7, 3) := by decide +kernel
theorem dX10_log_140 : decode cX10_log 140 = .ok (.iconst 0, 1) := by decide +kernel
theorem dX10_log_141 : decode cX10_log 141 = .ok (.goto 14, 3) := by decide +kernel
theorem dX10_log_144 : decode cX10_log 144 = .ok (.iload 9, 2) := by decide +kernel
theorem dX10_log_146 : decode cX10_log 146 = .ok (.iconst 1, 1) := by decide +kernel
theorem dX10_log_147 : decode cX10_log 147 = .ok (.if_icmp .ne 7, 3) := by decide +kernel
theorem dX10_log_150 : decode cX10_log 150 = .ok (.iconst 2, 1) := by decide +kernel
theorem dX10_log_151 : decode cX10_log 151 = .ok (.goto 4, 3) := by decide +kernel
theorem dX10_log_154 : decode cX10_log 154 = .ok (.iconst 1, 1) := by decide +kernel
theorem dX10_log_155 : decode cX10_log 155 = .ok (.if_icmp .ge 29, 3) := by decide +kernel
theorem dX10_log_158 : decode cX10_log 158 = .ok (.aload_n 0, 1) := by decide +kernel
theorem dX10_log_159 : decode cX10_log 159 = .ok (.aload_n 0, 1) := by decide +kernel
theorem dX10_log_160 : decode cX10_log 160 = .ok (.iload_n 2, 1) := by decide +kernel
theorem dX10_log_161 : decode cX10_log 161 = .ok (.iload 8, 2) := by decide +kernel
theorem dX10_log_163 : decode cX10_log 163 = .ok (.invokevirtual 135, 3) := by decide +kernel
theorem dX10_log_166 : decode cX10_log 166 = .ok (.sipush 520, 3) := by decide +kernel
theorem dX10_log_169 : decode cX10_log 169 = .ok (.iload 7, 2) := by decide +kernel
theorem dX10_log_171 : decode cX10_log 171 = .ok (.iadd, 1) := by decide +kernel
theorem dX10_log_172 : decode cX10_log 172 = .ok (.invokevirtual 229, 3) := by decide +kernel
theorem dX10_log_175 : decode cX10_log 175 = .ok (.iinc 7 1, 3) := by decide +kernel
theorem dX10_log_178 : decode cX10_log 178 = .ok (.iinc 10 1, 3) := by decide +kernel
theorem dX10_log_181 : decode cX10_log 181 = .ok (.goto (-48), 3) := by decide +kernel
theorem dX10_log_184 : decode cX10_log 184 = .ok (.iload 9, 2) := by decide +kernel
theorem dX10_log_186 : decode cX10_log 186 = .ok (.iconst 2, 1) := by decide +kernel
theorem dX10_log_187 : decode cX10_log 187 = .ok (.if_icmp .ne 15, 3) := by decide +kernel
theorem dX10_log_190 : decode cX10_log 190 = .ok (.aload_n 0, 1) := by decide +kernel
theorem dX10_log_191 : decode cX10_log 191 = .ok (.sipush 520, 3) := by decide +kernel
theorem dX10_log_194 : decode cX10_log 194 = .ok (.iload 7, 2) := by decide +kernel
theorem dX10_log_196 : decode cX10_log 196 = .ok (.iadd, 1) := by decide +kernel
theorem dX10_log_197 : decode cX10_log 197 = .ok (.iconst 1, 1) := by decide +kernel
theorem dX10_log_198 : decode cX10_log 198 = .ok (.isub, 1) := by decide +kernel
theorem dX10_log_199 : decode cX10_log 199 = .ok (.invokevirtual 315, 3) := by decide +kernel
theorem dX10_log_202 : decode cX10_log 202 = .ok (.iinc 8 1, 3) := by decide +kernel
theorem dX10_log_205 : decode cX10_log 205 = .ok (.goto (-111), 3) := by decide +kernel
theorem dX10_log_208 : decode cX10_log 208 = .ok (.iload 7, 2) := by decide +kernel
theorem dX10_log_210 : decode cX10_log 210 = .ok (.bipush 20, 2) := by decide +kernel
theorem dX10_log_212 : decode cX10_log 212 = .ok (.if_icmp .le 6, 3) := by decide +kernel
theorem dX10_log_215 : decode cX10_log 215 = .ok (.bipush (-3), 2) := by decide +kernel
theorem dX10_log_217 : decode cX10_log 217 = .ok (.ireturn, 1) := by decide +kernel
theorem dX10_log_218 : decode cX10_log 218 = .ok (.aload_n 0, 1) := by decide +kernel
theorem dX10_log_219 : decode cX10_log 219 = .ok (.iload_n 1, 1) := by decide +kernel
theorem dX10_log_220 : decode cX10_log 220 = .ok (.iload_n 3, 1) := by decide +kernel
theorem dX10_log_221 : decode cX10_log 221 = .ok (.iload 7, 2) := by decide +kernel
theorem dX10_log_223 : decode cX10_log 223 = .ok (.invokevirtual 293, 3) := by decide +kernel
theorem dX10_log_226 : decode cX10_log 226 = .ok (.iload 7, 2) := by decide +kernel
theorem dX10_log_228 : decode cX10_log 228 = .ok (.ireturn, 1) := by decide +kernel
theorem dX10_draw_0 : decode cX10_draw 0 = .ok (.iload_n 1, 1) := by decide +kernel
theorem dX10_draw_1 : decode cX10_draw 1 = .ok (.invokestatic 141, 3) := by decide +kernel
theorem dX10_draw_4 : decode cX10_draw 4 = .ok (.ifCond .eq 22, 3) := by decide +kernel
theorem dX10_draw_7 : decode cX10_draw 7 = .ok (.iload_n 2, 1) := by decide +kernel
theorem dX10_draw_8 : decode cX10_draw 8 = .ok (.invokestatic 184, 3) := by decide +kernel
theorem dX10_draw_11 : decode cX10_draw 11 = .ok (.ifCond .eq 15, 3) := by decide +kernel
theorem dX10_draw_14 : decode cX10_draw 14 = .ok (.iload_n 3, 1) := by decide +kernel
theorem dX10_draw_15 : decode cX10_draw 15 = .ok (.i2l, 1) := by decide +kernel
theorem dX10_draw_16 : decode cX10_draw 16 = .ok (.lconst 0, 1) := by decide +kernel
theorem dX10_draw_17 : decode cX10_draw 17 = .ok (.ldc2_w 190, 3) := by decide +kernel
theorem dX10_draw_20 : decode cX10_draw 20 = .ok (.invokestatic 72, 3) := by decide +kernel
theorem dX10_draw_23 : decode cX10_draw 23 = .ok (.ifCond .ne 5, 3) := by decide +kernel
theorem dX10_draw_26 : decode cX10_draw 26 = .ok (.iconst (-1), 1) := by decide +kernel
theorem dX10_draw_27 : decode cX10_draw 27 = .ok (.ireturn, 1) := by decide +kernel
theorem dX10_draw_28 : decode cX10_draw 28 = .ok (.iload 4, 2) := by decide +kernel
theorem dX10_draw_30 : decode cX10_draw 30 = .ok (.istore 5, 2) := by decide +kernel
theorem dX10_draw_32 : decode cX10_draw 32 = .ok (.iconst 0, 1) := by decide +kernel
theorem dX10_draw_33 : decode cX10_draw 33 = .ok (.istore 6, 2) := by decide +kernel
theorem dX10_draw_35 : decode cX10_draw 35 = .ok (.iload 6, 2) := by decide +kernel
theorem dX10_draw_37 : decode cX10_draw 37 = .ok (.iload_n 3, 1) := by decide +kernel
theorem dX10_draw_38 : decode cX10_draw 38 = .ok (.if_icmp .ge 106, 3) := by decide +kernel
theorem dX10_draw_41 : decode cX10_draw 41 = .ok (.iload 5, 2) := by decide +kernel
theorem dX10_draw_43 : decode cX10_draw 43 = .ok (.ldc_w 314, 3) := by decide +kernel
theorem dX10_draw_46 : decode cX10_draw 46 = .ok (.imul, 1) := by decide +kernel
theorem dX10_draw_47 : decode cX10_draw 47 = .ok (.sipush 12345, 3) := by decide +kernel
theorem dX10_draw_50 : decode cX10_draw 50 = .ok (.iadd, 1) := by decide +kernel
theorem dX10_draw_51 : decode cX10_draw 51 = .ok (.istore 5, 2) := by decide +kernel
theorem dX10_draw_53 : decode cX10_draw 53 = .ok (.iload 5, 2) := by decide +kernel
theorem dX10_draw_55 : decode cX10_draw 55 = .ok (.bipush 16, 2) := by decide +kernel
theorem dX10_draw_57 : decode cX10_draw 57 = .ok (.ishr, 1) := by decide +kernel
theorem dX10_draw_58 : decode cX10_draw 58 = .ok (.sipush 32767, 3) := by decide +kernel
theorem dX10_draw_61 : decode cX10_draw 61 = .ok (.iand, 1) := by decide +kernel
theorem dX10_draw_62 : decode cX10_draw 62 = .ok (.istore 7, 2) := by decide +kernel
theorem dX10_draw_64 : decode cX10_draw 64 = .ok (.iload_n 2, 1) := by decide +kernel
theorem dX10_draw_65 : decode cX10_draw 65 = .ok (.bipush 9, 2) := by decide +kernel
theorem dX10_draw_67 : decode cX10_draw 67 = .ok (.if_icmp .ne 11, 3) := by decide +kernel
theorem dX10_draw_70 : decode cX10_draw 70 = .ok (.iload 7, 2) := by decide +kernel
theorem dX10_draw_72 : decode cX10_draw 72 = .ok (.bipush 11, 2) := by decide +kernel
theorem dX10_draw_74 : decode cX10_draw 74 = .ok (.irem, 1) := by decide +kernel
theorem dX10_draw_75 : decode cX10_draw 75 = .ok (.goto 4, 3) := by decide +kernel
theorem dX10_draw_78 : decode cX10_draw 78 = .ok (.iload_n 2, 1) := by decide +kernel
theorem dX10_draw_79 : decode cX10_draw 79 = .ok (.istore 8, 2) := by decide +kernel
theorem dX10_draw_81 : decode cX10_draw 81 = .ok (.sipush 520, 3) := by decide +kernel
theorem dX10_draw_84 : decode cX10_draw 84 = .ok (.iload 6, 2) := by decide +kernel
theorem dX10_draw_86 : decode cX10_draw 86 = .ok (.iadd, 1) := by decide +kernel
theorem dX10_draw_87 : decode cX10_draw 87 = .ok (.istore 9, 2) := by decide +kernel
theorem dX10_draw_89 : decode cX10_draw 89 = .ok (.aload_n 0, 1) := by decide +kernel
theorem dX10_draw_90 : decode cX10_draw 90 = .ok (.iload 9, 2) := by decide +kernel
theorem dX10_draw_92 : decode cX10_draw 92 = .ok (.iload 8, 2) := by decide +kernel
theorem dX10_draw_94 : decode cX10_draw 94 = .ok (.iload 7, 2) := by decide +kernel
theorem dX10_draw_96 : decode cX10_draw 96 = .ok (.bipush 16, 2) := by decide +kernel
theorem dX10_draw_98 : decode cX10_draw 98 = .ok (.idiv, 1) := by decide +kernel
theorem dX10_draw_99 : decode cX10_draw 99 = .ok (.bipush 64, 2) := by decide +kernel
theorem dX10_draw_101 : decode cX10_draw 101 = .ok (.irem, 1) := by decide +kernel
theorem dX10_draw_102 : decode cX10_draw 102 = .ok (.bipush 8, 2) := by decide +kernel
theorem dX10_draw_104 : decode cX10_draw 104 = .ok (.isub, 1) := by decide +kernel
theorem dX10_draw_105 : decode cX10_draw 105 = .ok (.invokevirtual 174, 3) := by decide +kernel
theorem dX10_draw_108 : decode cX10_draw 108 = .ok (.iload 8, 2) := by decide +kernel
theorem dX10_draw_110 : decode cX10_draw 110 = .ok (.iconst 5, 1) := by decide +kernel
theorem dX10_draw_111 : decode cX10_draw 111 = .ok (.if_icmp .ne 27, 3) := by decide +kernel
theorem dX10_draw_114 : decode cX10_draw 114 = .ok (.iload 7, 2) := by decide +kernel
theorem dX10_draw_116 : decode cX10_draw 116 = .ok (.bipush 16, 2) := by decide +kernel
theorem dX10_draw_118 : decode cX10_draw 118 = .ok (.idiv, 1) := by decide +kernel
theorem dX10_draw_119 : decode cX10_draw 119 = .ok (.iconst 2, 1) := by decide +kernel
theorem dX10_draw_120 : decode cX10_draw 120 = .ok (.irem, 1) := by decide +kernel
theorem dX10_draw_121 : decode cX10_draw 121 = .ok (.iconst 1, 1) := by decide +kernel
theorem dX10_draw_122 : decode cX10_draw 122 = .ok (.if_icmp .ne 16, 3) := by decide +kernel
theorem dX10_draw_125 : decode cX10_draw 125 = .ok (.aload_n 0, 1) := by decide +kernel
theorem dX10_draw_126 : decode cX10_draw 126 = .ok (.getfield 13, 3) := by decide +kernel
theorem dX10_draw_129 : decode cX10_draw 129 = .ok (.iload 9, 2) := by decide +kernel
theorem dX10_draw_131 : decode cX10_draw 131 = .ok (.dup2, 1) := by decide +kernel
theorem dX10_draw_132 : decode cX10_draw 132 = .ok (.laload, 1) := by decide +kernel
theorem dX10_draw_133 : decode cX10_draw 133 = .ok (.ldc2_w 319, 3) := by decide +kernel
theorem dX10_draw_136 : decode cX10_draw 136 = .ok (.lmul, 1) := by decide +kernel
theorem dX10_draw_137 : decode cX10_draw 137 = .ok (.lastore, 1) := by decide +kernel
theorem dX10_draw_138 : decode cX10_draw 138 = .ok (.iinc 6 1, 3) := by decide +kernel
theorem dX10_draw_141 : decode cX10_draw 141 = .ok (.goto (-106), 3) := by decide +kernel
theorem dX10_draw_144 : decode cX10_draw 144 = .ok (.aload_n 0, 1) := by decide +kernel
theorem dX10_draw_145 : decode cX10_draw 145 = .ok (.iload_n 1, 1) := by decide +kernel
theorem dX10_draw_146 : decode cX10_draw 146 = .ok (.iload_n 2, 1) := by decide +kernel
theorem dX10_draw_147 : decode cX10_draw 147 = .ok (.iload_n 3, 1) := by decide +kernel
theorem dX10_draw_148 : decode cX10_draw 148 = .ok (.invokevirtual 293, 3) := by decide +kernel
theorem dX10_draw_151 : decode cX10_draw 151 = .ok (.iconst 1, 1) := by decide +kernel
theorem dX10_draw_152 : decode cX10_draw 152 = .ok (.ireturn, 1) := by decide +kernel
theorem dX10_keep_0 : decode cX10_keep 0 = .ok (.iload_n 1, 1) := by decide +kernel
theorem dX10_keep_1 : decode cX10_keep 1 = .ok (.i2l, 1) := by decide +kernel
theorem dX10_keep_2 : decode cX10_keep 2 = .ok (.lconst 0, 1) := by decide +kernel
theorem dX10_keep_3 : decode cX10_keep 3 = .ok (.lconst 1, 1) := by decide +kernel
theorem dX10_keep_4 : decode cX10_keep 4 = .ok (.invokestatic 72, 3) := by decide +kernel
theorem dX10_keep_7 : decode cX10_keep 7 = .ok (.ifCond .ne 5, 3) := by decide +kernel
theorem dX10_keep_10 : decode cX10_keep 10 = .ok (.iconst (-1), 1) := by decide +kernel
theorem dX10_keep_11 : decode cX10_keep 11 = .ok (.ireturn, 1) := by decide +kernel
theorem dX10_keep_12 : decode cX10_keep 12 = .ok (.aload_n 0, 1) := by decide +kernel
theorem dX10_keep_13 : decode cX10_keep 13 = .ok (.getfield 64, 3) := by decide +kernel
theorem dX10_keep_16 : decode cX10_keep 16 = .ok (.iload_n 1, 1) := by decide +kernel
theorem dX10_keep_17 : decode cX10_keep 17 = .ok (.baload, 1) := by decide +kernel
theorem dX10_keep_18 : decode cX10_keep 18 = .ok (.invokestatic 200, 3) := by decide +kernel
theorem dX10_keep_21 : decode cX10_keep 21 = .ok (.istore_n 2, 1) := by decide +kernel
theorem dX10_keep_22 : decode cX10_keep 22 = .ok (.aload_n 0, 1) := by decide +kernel
theorem dX10_keep_23 : decode cX10_keep 23 = .ok (.getfield 64, 3) := by decide +kernel
theorem dX10_keep_26 : decode cX10_keep 26 = .ok (.iload_n 1, 1) := by decide +kernel
theorem dX10_keep_27 : decode cX10_keep 27 = .ok (.iconst 1, 1) := by decide +kernel
theorem dX10_keep_28 : decode cX10_keep 28 = .ok (.bastore, 1) := by decide +kernel
theorem dX10_keep_29 : decode cX10_keep 29 = .ok (.iconst 0, 1) := by decide +kernel
theorem dX10_keep_30 : decode cX10_keep 30 = .ok (.istore_n 3, 1) := by decide +kernel
theorem dX10_keep_31 : decode cX10_keep 31 = .ok (.iload_n 3, 1) := by decide +kernel
theorem dX10_keep_32 : decode cX10_keep 32 = .ok (.bipush 8, 2) := by decide +kernel
theorem dX10_keep_34 : decode cX10_keep 34 = .ok (.if_icmp .ge 40, 3) := by decide +kernel
theorem dX10_keep_37 : decode cX10_keep 37 = .ok (.aload_n 0, 1) := by decide +kernel
theorem dX10_keep_38 : decode cX10_keep 38 = .ok (.getfield 67, 3) := by decide +kernel
theorem dX10_keep_41 : decode cX10_keep 41 = .ok (.bipush 8, 2) := by decide +kernel
theorem dX10_keep_43 : decode cX10_keep 43 = .ok (.iload_n 1, 1) := by decide +kernel
theorem dX10_keep_44 : decode cX10_keep 44 = .ok (.imul, 1) := by decide +kernel
theorem dX10_keep_45 : decode cX10_keep 45 = .ok (.iload_n 3, 1) := by decide +kernel
theorem dX10_keep_46 : decode cX10_keep 46 = .ok (.iadd, 1) := by decide +kernel
theorem dX10_keep_47 : decode cX10_keep 47 = .ok (.aload_n 0, 1) := by decide +kernel
theorem dX10_keep_48 : decode cX10_keep 48 = .ok (.getfield 27, 3) := by decide +kernel
theorem dX10_keep_51 : decode cX10_keep 51 = .ok (.iload_n 3, 1) := by decide +kernel
theorem dX10_keep_52 : decode cX10_keep 52 = .ok (.iaload, 1) := by decide +kernel
theorem dX10_keep_53 : decode cX10_keep 53 = .ok (.iastore, 1) := by decide +kernel
theorem dX10_keep_54 : decode cX10_keep 54 = .ok (.aload_n 0, 1) := by decide +kernel
theorem dX10_keep_55 : decode cX10_keep 55 = .ok (.iload_n 3, 1) := by decide +kernel
theorem dX10_keep_56 : decode cX10_keep 56 = .ok (.bipush 8, 2) := by decide +kernel
theorem dX10_keep_58 : decode cX10_keep 58 = .ok (.bipush 8, 2) := by decide +kernel
theorem dX10_keep_60 : decode cX10_keep 60 = .ok (.iload_n 1, 1) := by decide +kernel
theorem dX10_keep_61 : decode cX10_keep 61 = .ok (.imul, 1) := by decide +kernel
theorem dX10_keep_62 : decode cX10_keep 62 = .ok (.iadd, 1) := by decide +kernel
theorem dX10_keep_63 : decode cX10_keep 63 = .ok (.iload_n 3, 1) := by decide +kernel
theorem dX10_keep_64 : decode cX10_keep 64 = .ok (.iadd, 1) := by decide +kernel
theorem dX10_keep_65 : decode cX10_keep 65 = .ok (.invokevirtual 243, 3) := by decide +kernel
theorem dX10_keep_68 : decode cX10_keep 68 = .ok (.iinc 3 1, 3) := by decide +kernel
theorem dX10_keep_71 : decode cX10_keep 71 = .ok (.goto (-40), 3) := by decide +kernel
theorem dX10_keep_74 : decode cX10_keep 74 = .ok (.iload_n 2, 1) := by decide +kernel
theorem dX10_keep_75 : decode cX10_keep 75 = .ok (.ireturn, 1) := by decide +kernel
theorem dX10_rowsHeld_0 : decode cX10_rowsHeld 0 = .ok (.iconst 0, 1) := by decide +kernel
theorem dX10_rowsHeld_1 : decode cX10_rowsHeld 1 = .ok (.istore_n 1, 1) := by decide +kernel
theorem dX10_rowsHeld_2 : decode cX10_rowsHeld 2 = .ok (.iconst 0, 1) := by decide +kernel
theorem dX10_rowsHeld_3 : decode cX10_rowsHeld 3 = .ok (.istore_n 2, 1) := by decide +kernel
theorem dX10_rowsHeld_4 : decode cX10_rowsHeld 4 = .ok (.iload_n 2, 1) := by decide +kernel
theorem dX10_rowsHeld_5 : decode cX10_rowsHeld 5 = .ok (.bipush 8, 2) := by decide +kernel
theorem dX10_rowsHeld_7 : decode cX10_rowsHeld 7 = .ok (.if_icmp .ge 29, 3) := by decide +kernel
theorem dX10_rowsHeld_10 : decode cX10_rowsHeld 10 = .ok (.iload_n 1, 1) := by decide +kernel
theorem dX10_rowsHeld_11 : decode cX10_rowsHeld 11 = .ok (.aload_n 0, 1) := by decide +kernel
theorem dX10_rowsHeld_12 : decode cX10_rowsHeld 12 = .ok (.getfield 27, 3) := by decide +kernel
theorem dX10_rowsHeld_15 : decode cX10_rowsHeld 15 = .ok (.iload_n 2, 1) := by decide +kernel
theorem dX10_rowsHeld_16 : decode cX10_rowsHeld 16 = .ok (.iaload, 1) := by decide +kernel
theorem dX10_rowsHeld_17 : decode cX10_rowsHeld 17 = .ok (.ifCond .lt 7, 3) := by decide +kernel
theorem dX10_rowsHeld_20 : decode cX10_rowsHeld 20 = .ok (.iconst 1, 1) := by decide +kernel
theorem dX10_rowsHeld_21 : decode cX10_rowsHeld 21 = .ok (.goto 4, 3) := by decide +kernel
theorem dX10_rowsHeld_24 : decode cX10_rowsHeld 24 = .ok (.iconst 0, 1) := by decide +kernel
theorem dX10_rowsHeld_25 : decode cX10_rowsHeld 25 = .ok (.invokestatic 200, 3) := by decide +kernel
theorem dX10_rowsHeld_28 : decode cX10_rowsHeld 28 = .ok (.iadd, 1) := by decide +kernel
theorem dX10_rowsHeld_29 : decode cX10_rowsHeld 29 = .ok (.istore_n 1, 1) := by decide +kernel
theorem dX10_rowsHeld_30 : decode cX10_rowsHeld 30 = .ok (.iinc 2 1, 3) := by decide +kernel
theorem dX10_rowsHeld_33 : decode cX10_rowsHeld 33 = .ok (.goto (-29), 3) := by decide +kernel
theorem dX10_rowsHeld_36 : decode cX10_rowsHeld 36 = .ok (.iload_n 1, 1) := by decide +kernel
theorem dX10_rowsHeld_37 : decode cX10_rowsHeld 37 = .ok (.ireturn, 1) := by decide +kernel
theorem dX10_back_0 : decode cX10_back 0 = .ok (.iload_n 1, 1) := by decide +kernel
theorem dX10_back_1 : decode cX10_back 1 = .ok (.i2l, 1) := by decide +kernel
theorem dX10_back_2 : decode cX10_back 2 = .ok (.lconst 0, 1) := by decide +kernel
theorem dX10_back_3 : decode cX10_back 3 = .ok (.lconst 1, 1) := by decide +kernel
theorem dX10_back_4 : decode cX10_back 4 = .ok (.invokestatic 72, 3) := by decide +kernel
theorem dX10_back_7 : decode cX10_back 7 = .ok (.ifCond .ne 5, 3) := by decide +kernel
theorem dX10_back_10 : decode cX10_back 10 = .ok (.iconst (-1), 1) := by decide +kernel
theorem dX10_back_11 : decode cX10_back 11 = .ok (.ireturn, 1) := by decide +kernel
theorem dX10_back_12 : decode cX10_back 12 = .ok (.aload_n 0, 1) := by decide +kernel
theorem dX10_back_13 : decode cX10_back 13 = .ok (.getfield 64, 3) := by decide +kernel
theorem dX10_back_16 : decode cX10_back 16 = .ok (.iload_n 1, 1) := by decide +kernel
theorem dX10_back_17 : decode cX10_back 17 = .ok (.baload, 1) := by decide +kernel
theorem dX10_back_18 : decode cX10_back 18 = .ok (.ifCond .ne 6, 3) := by decide +kernel
theorem dX10_back_21 : decode cX10_back 21 = .ok (.bipush (-2), 2) := by decide +kernel
theorem dX10_back_23 : decode cX10_back 23 = .ok (.ireturn, 1) := by decide +kernel
theorem dX10_back_24 : decode cX10_back 24 = .ok (.iconst 0, 1) := by decide +kernel
theorem dX10_back_25 : decode cX10_back 25 = .ok (.istore_n 2, 1) := by decide +kernel
theorem dX10_back_26 : decode cX10_back 26 = .ok (.iload_n 2, 1) := by decide +kernel
theorem dX10_back_27 : decode cX10_back 27 = .ok (.bipush 8, 2) := by decide +kernel
theorem dX10_back_29 : decode cX10_back 29 = .ok (.if_icmp .ge 40, 3) := by decide +kernel
theorem dX10_back_32 : decode cX10_back 32 = .ok (.aload_n 0, 1) := by decide +kernel
theorem dX10_back_33 : decode cX10_back 33 = .ok (.getfield 27, 3) := by decide +kernel
theorem dX10_back_36 : decode cX10_back 36 = .ok (.iload_n 2, 1) := by decide +kernel
theorem dX10_back_37 : decode cX10_back 37 = .ok (.aload_n 0, 1) := by decide +kernel
theorem dX10_back_38 : decode cX10_back 38 = .ok (.getfield 67, 3) := by decide +kernel
theorem dX10_back_41 : decode cX10_back 41 = .ok (.bipush 8, 2) := by decide +kernel
theorem dX10_back_43 : decode cX10_back 43 = .ok (.iload_n 1, 1) := by decide +kernel
theorem dX10_back_44 : decode cX10_back 44 = .ok (.imul, 1) := by decide +kernel
theorem dX10_back_45 : decode cX10_back 45 = .ok (.iload_n 2, 1) := by decide +kernel
theorem dX10_back_46 : decode cX10_back 46 = .ok (.iadd, 1) := by decide +kernel
theorem dX10_back_47 : decode cX10_back 47 = .ok (.iaload, 1) := by decide +kernel
theorem dX10_back_48 : decode cX10_back 48 = .ok (.iastore, 1) := by decide +kernel
theorem dX10_back_49 : decode cX10_back 49 = .ok (.aload_n 0, 1) := by decide +kernel
theorem dX10_back_50 : decode cX10_back 50 = .ok (.bipush 8, 2) := by decide +kernel
theorem dX10_back_52 : decode cX10_back 52 = .ok (.bipush 8, 2) := by decide +kernel
theorem dX10_back_54 : decode cX10_back 54 = .ok (.iload_n 1, 1) := by decide +kernel
theorem dX10_back_55 : decode cX10_back 55 = .ok (.imul, 1) := by decide +kernel
theorem dX10_back_56 : decode cX10_back 56 = .ok (.iadd, 1) := by decide +kernel
theorem dX10_back_57 : decode cX10_back 57 = .ok (.iload_n 2, 1) := by decide +kernel
theorem dX10_back_58 : decode cX10_back 58 = .ok (.iadd, 1) := by decide +kernel
theorem dX10_back_59 : decode cX10_back 59 = .ok (.iload_n 2, 1) := by decide +kernel
theorem dX10_back_60 : decode cX10_back 60 = .ok (.invokevirtual 243, 3) := by decide +kernel
theorem dX10_back_63 : decode cX10_back 63 = .ok (.iinc 2 1, 3) := by decide +kernel
theorem dX10_back_66 : decode cX10_back 66 = .ok (.goto (-40), 3) := by decide +kernel
theorem dX10_back_69 : decode cX10_back 69 = .ok (.aload_n 0, 1) := by decide +kernel
theorem dX10_back_70 : decode cX10_back 70 = .ok (.invokevirtual 321, 3) := by decide +kernel
theorem dX10_back_73 : decode cX10_back 73 = .ok (.ireturn, 1) := by decide +kernel
theorem dX10_ofRows_0 : decode cX10_ofRows 0 = .ok (.iconst 0, 1) := by decide +kernel
theorem dX10_ofRows_1 : decode cX10_ofRows 1 = .ok (.istore_n 2, 1) := by decide +kernel
theorem dX10_ofRows_2 : decode cX10_ofRows 2 = .ok (.iconst 0, 1) := by decide +kernel
theorem dX10_ofRows_3 : decode cX10_ofRows 3 = .ok (.istore_n 3, 1) := by decide +kernel
theorem dX10_ofRows_4 : decode cX10_ofRows 4 = .ok (.iload_n 3, 1) := by decide +kernel
theorem dX10_ofRows_5 : decode cX10_ofRows 5 = .ok (.bipush 8, 2) := by decide +kernel
theorem dX10_ofRows_7 : decode cX10_ofRows 7 = .ok (.if_icmp .ge 97, 3) := by decide +kernel
theorem dX10_ofRows_10 : decode cX10_ofRows 10 = .ok (.aload_n 0, 1) := by decide +kernel
theorem dX10_ofRows_11 : decode cX10_ofRows 11 = .ok (.iload_n 3, 1) := by decide +kernel
theorem dX10_ofRows_12 : decode cX10_ofRows 12 = .ok (.invokevirtual 128, 3) := by decide +kernel
theorem dX10_ofRows_15 : decode cX10_ofRows 15 = .ok (.ifCond .eq 83, 3) := by decide +kernel
theorem dX10_ofRows_18 : decode cX10_ofRows 18 = .ok (.iload_n 2, 1) := by decide +kernel
theorem dX10_ofRows_19 : decode cX10_ofRows 19 = .ok (.iload_n 1, 1) := by decide +kernel
theorem dX10_ofRows_20 : decode cX10_ofRows 20 = .ok (.iconst 1, 1) := by decide +kernel
theorem dX10_ofRows_21 : decode cX10_ofRows 21 = .ok (.if_icmp .ne 7, 3) := by decide +kernel
theorem dX10_ofRows_24 : decode cX10_ofRows 24 = .ok (.iconst 1, 1) := by decide +kernel
theorem dX10_ofRows_25 : decode cX10_ofRows 25 = .ok (.goto 18, 3) := by decide +kernel
theorem dX10_ofRows_28 : decode cX10_ofRows 28 = .ok (.iload_n 1, 1) := by decide +kernel
theorem dX10_ofRows_29 : decode cX10_ofRows 29 = .ok (.iconst 2, 1) := by decide +kernel
theorem dX10_ofRows_30 : decode cX10_ofRows 30 = .ok (.if_icmp .ne 12, 3) := by decide +kernel
theorem dX10_ofRows_33 : decode cX10_ofRows 33 = .ok (.aload_n 0, 1) := by decide +kernel
theorem dX10_ofRows_34 : decode cX10_ofRows 34 = .ok (.getfield 24, 3) := by decide +kernel
theorem dX10_ofRows_37 : decode cX10_ofRows 37 = .ok (.iload_n 3, 1) := by decide +kernel
theorem dX10_ofRows_38 : decode cX10_ofRows 38 = .ok (.iaload, 1) := by decide +kernel
theorem dX10_ofRows_39 : decode cX10_ofRows 39 = .ok (.goto 4, 3) := by decide +kernel
theorem dX10_ofRows_42 : decode cX10_ofRows 42 = .ok (.iconst 0, 1) := by decide +kernel
theorem dX10_ofRows_43 : decode cX10_ofRows 43 = .ok (.iadd, 1) := by decide +kernel
theorem dX10_ofRows_44 : decode cX10_ofRows 44 = .ok (.istore_n 2, 1) := by decide +kernel
theorem dX10_ofRows_45 : decode cX10_ofRows 45 = .ok (.iconst 0, 1) := by decide +kernel
theorem dX10_ofRows_46 : decode cX10_ofRows 46 = .ok (.istore 4, 2) := by decide +kernel
theorem dX10_ofRows_48 : decode cX10_ofRows 48 = .ok (.iload 4, 2) := by decide +kernel
theorem dX10_ofRows_50 : decode cX10_ofRows 50 = .ok (.aload_n 0, 1) := by decide +kernel
theorem dX10_ofRows_51 : decode cX10_ofRows 51 = .ok (.getfield 24, 3) := by decide +kernel
theorem dX10_ofRows_54 : decode cX10_ofRows 54 = .ok (.iload_n 3, 1) := by decide +kernel
theorem dX10_ofRows_55 : decode cX10_ofRows 55 = .ok (.iaload, 1) := by decide +kernel
theorem dX10_ofRows_56 : decode cX10_ofRows 56 = .ok (.if_icmp .ge 42, 3) := by decide +kernel
theorem dX10_ofRows_59 : decode cX10_ofRows 59 = .ok (.iload_n 1, 1) := by decide +kernel
theorem dX10_ofRows_60 : decode cX10_ofRows 60 = .ok (.iconst 3, 1) := by decide +kernel
theorem dX10_ofRows_61 : decode cX10_ofRows 61 = .ok (.if_icmp .ne 37, 3) := by decide +kernel
theorem dX10_ofRows_64 : decode cX10_ofRows 64 = .ok (.iload_n 2, 1) := by decide +kernel
theorem dX10_ofRows_65 : decode cX10_ofRows 65 = .ok (.aload_n 0, 1) := by decide +kernel
theorem dX10_ofRows_66 : decode cX10_ofRows 66 = .ok (.getfield 7, 3) := by decide +kernel
theorem dX10_ofRows_69 : decode cX10_ofRows 69 = .ok (.bipush 20, 2) := by decide +kernel
theorem dX10_ofRows_71 : decode cX10_ofRows 71 = .ok (.iload_n 3, 1) := by decide +kernel
theorem dX10_ofRows_72 : decode cX10_ofRows 72 = .ok (.imul, 1) := by decide +kernel
theorem dX10_ofRows_73 : decode cX10_ofRows 73 = .ok (.iload 4, 2) := by decide +kernel
theorem dX10_ofRows_75 : decode cX10_ofRows 75 = .ok (.iadd, 1) := by decide +kernel
theorem dX10_ofRows_76 : decode cX10_ofRows 76 = .ok (.iaload, 1) := by decide +kernel
theorem dX10_ofRows_77 : decode cX10_ofRows 77 = .ok (.bipush 9, 2) := by decide +kernel
theorem dX10_ofRows_79 : decode cX10_ofRows 79 = .ok (.if_icmp .ne 7, 3) := by decide +kernel
theorem dX10_ofRows_82 : decode cX10_ofRows 82 = .ok (.iconst 1, 1) := by decide +kernel
theorem dX10_ofRows_83 : decode cX10_ofRows 83 = .ok (.goto 4, 3) := by decide +kernel
theorem dX10_ofRows_86 : decode cX10_ofRows 86 = .ok (.iconst 0, 1) := by decide +kernel
theorem dX10_ofRows_87 : decode cX10_ofRows 87 = .ok (.invokestatic 200, 3) := by decide +kernel
theorem dX10_ofRows_90 : decode cX10_ofRows 90 = .ok (.iadd, 1) := by decide +kernel
theorem dX10_ofRows_91 : decode cX10_ofRows 91 = .ok (.istore_n 2, 1) := by decide +kernel
theorem dX10_ofRows_92 : decode cX10_ofRows 92 = .ok (.iinc 4 1, 3) := by decide +kernel
theorem dX10_ofRows_95 : decode cX10_ofRows 95 = .ok (.goto (-47), 3) := by decide +kernel
theorem dX10_ofRows_98 : decode cX10_ofRows 98 = .ok (.iinc 3 1, 3) := by decide +kernel
theorem dX10_ofRows_101 : decode cX10_ofRows 101 = .ok (.goto (-97), 3) := by decide +kernel
theorem dX10_ofRows_104 : decode cX10_ofRows 104 = .ok (.iload_n 2, 1) := by decide +kernel
theorem dX10_ofRows_105 : decode cX10_ofRows 105 = .ok (.ireturn, 1) := by decide +kernel
theorem dX10_count_0 : decode cX10_count 0 = .ok (.iload_n 1, 1) := by decide +kernel
theorem dX10_count_1 : decode cX10_count 1 = .ok (.tableswitch 110 0 5 #[39, 44, 44, 44, 50, 90], 39) := by decide +kernel
theorem dX10_count_40 : decode cX10_count 40 = .ok (.aload_n 0, 1) := by decide +kernel
theorem dX10_count_41 : decode cX10_count 41 = .ok (.invokevirtual 321, 3) := by decide +kernel
theorem dX10_count_44 : decode cX10_count 44 = .ok (.ireturn, 1) := by decide +kernel
theorem dX10_count_45 : decode cX10_count 45 = .ok (.aload_n 0, 1) := by decide +kernel
theorem dX10_count_46 : decode cX10_count 46 = .ok (.iload_n 1, 1) := by decide +kernel
theorem dX10_count_47 : decode cX10_count 47 = .ok (.invokevirtual 324, 3) := by decide +kernel
theorem dX10_count_50 : decode cX10_count 50 = .ok (.ireturn, 1) := by decide +kernel
theorem dX10_count_51 : decode cX10_count 51 = .ok (.aload_n 0, 1) := by decide +kernel
theorem dX10_count_52 : decode cX10_count 52 = .ok (.getfield 55, 3) := by decide +kernel
theorem dX10_count_55 : decode cX10_count 55 = .ok (.iconst 0, 1) := by decide +kernel
theorem dX10_count_56 : decode cX10_count 56 = .ok (.baload, 1) := by decide +kernel
theorem dX10_count_57 : decode cX10_count 57 = .ok (.invokestatic 200, 3) := by decide +kernel
theorem dX10_count_60 : decode cX10_count 60 = .ok (.aload_n 0, 1) := by decide +kernel
theorem dX10_count_61 : decode cX10_count 61 = .ok (.getfield 55, 3) := by decide +kernel
theorem dX10_count_64 : decode cX10_count 64 = .ok (.iconst 1, 1) := by decide +kernel
theorem dX10_count_65 : decode cX10_count 65 = .ok (.baload, 1) := by decide +kernel
theorem dX10_count_66 : decode cX10_count 66 = .ok (.invokestatic 200, 3) := by decide +kernel
theorem dX10_count_69 : decode cX10_count 69 = .ok (.iadd, 1) := by decide +kernel
theorem dX10_count_70 : decode cX10_count 70 = .ok (.aload_n 0, 1) := by decide +kernel
theorem dX10_count_71 : decode cX10_count 71 = .ok (.getfield 55, 3) := by decide +kernel
theorem dX10_count_74 : decode cX10_count 74 = .ok (.iconst 2, 1) := by decide +kernel
theorem dX10_count_75 : decode cX10_count 75 = .ok (.baload, 1) := by decide +kernel
theorem dX10_count_76 : decode cX10_count 76 = .ok (.invokestatic 200, 3) := by decide +kernel
theorem dX10_count_79 : decode cX10_count 79 = .ok (.iadd, 1) := by decide +kernel
theorem dX10_count_80 : decode cX10_count 80 = .ok (.aload_n 0, 1) := by decide +kernel
theorem dX10_count_81 : decode cX10_count 81 = .ok (.getfield 55, 3) := by decide +kernel
theorem dX10_count_84 : decode cX10_count 84 = .ok (.iconst 3, 1) := by decide +kernel
theorem dX10_count_85 : decode cX10_count 85 = .ok (.baload, 1) := by decide +kernel
theorem dX10_count_86 : decode cX10_count 86 = .ok (.invokestatic 200, 3) := by decide +kernel
theorem dX10_count_89 : decode cX10_count 89 = .ok (.iadd, 1) := by decide +kernel
theorem dX10_count_90 : decode cX10_count 90 = .ok (.ireturn, 1) := by decide +kernel
theorem dX10_count_91 : decode cX10_count 91 = .ok (.aload_n 0, 1) := by decide +kernel
theorem dX10_count_92 : decode cX10_count 92 = .ok (.getfield 64, 3) := by decide +kernel
theorem dX10_count_95 : decode cX10_count 95 = .ok (.iconst 0, 1) := by decide +kernel
theorem dX10_count_96 : decode cX10_count 96 = .ok (.baload, 1) := by decide +kernel
theorem dX10_count_97 : decode cX10_count 97 = .ok (.invokestatic 200, 3) := by decide +kernel
theorem dX10_count_100 : decode cX10_count 100 = .ok (.aload_n 0, 1) := by decide +kernel
theorem dX10_count_101 : decode cX10_count 101 = .ok (.getfield 64, 3) := by decide +kernel
theorem dX10_count_104 : decode cX10_count 104 = .ok (.iconst 1, 1) := by decide +kernel
theorem dX10_count_105 : decode cX10_count 105 = .ok (.baload, 1) := by decide +kernel
theorem dX10_count_106 : decode cX10_count 106 = .ok (.invokestatic 200, 3) := by decide +kernel
theorem dX10_count_109 : decode cX10_count 109 = .ok (.iadd, 1) := by decide +kernel
theorem dX10_count_110 : decode cX10_count 110 = .ok (.ireturn, 1) := by decide +kernel
theorem dX10_count_111 : decode cX10_count 111 = .ok (.iconst (-1), 1) := by decide +kernel
theorem dX10_count_112 : decode cX10_count 112 = .ok (.ireturn, 1) := by decide +kernel
end
section
/-! Z: walks over one world. The heap of the run is a function from addresses to objects; new cells come at the end. My own rows, over the kit's. -/
/-- launch, class tables, array classes (by number), the first own address -/
abbrev zG : Type := Launch × va_G × (Nat → ClassId) × Nat
/-- an array (its type's number, length, contents) or an object (its class's number, fields) -/
abbrev zOb : Type := (Nat × vp_A) ⊕ (Nat × List Value)
/-- the next address, and what lies where -/
abbrev zH : Type := Nat × (Nat → Option zOb)
/-- a method: own, code, locals, answer's type, room, name, what else holds at its start -/
abbrev zY : Type := String × ByteArray × Nat × Option FieldType × Room × String × (Array Value → State → Prop)
def zEnc (g : zG) (o : zOb) : va_E := match o with
  | .inl q => .inl (g.2.2.1 q.1, q.2)
  | .inr q => .inr q
def zAt (g : zG) (a : Nat) (o : zOb) (H : Heap) : Prop := va_at g.2.1 vwCl (a, zEnc g o) H
def zOk (g : zG) (h : zH) (H : Heap) : Prop := H.size = h.1 ∧ ∀ (a : Nat) (o : zOb), h.2 a = some o → g.2.2.2 ≤ a ∧ zAt g a o H
def zTys (g : zG) : List (ClassId × FieldType) := [(g.2.2.1 0, .int), (g.2.2.1 1, .long), (g.2.2.1 2, .double), (g.2.2.1 3, .boolean), (g.2.2.1 4, .object "LoggerTwins$Cells"), (g.2.2.1 5, .object "LoggerTwins$Records"), (g.2.2.1 6, .object "LoggerTwins$Patch"), (g.2.2.1 7, .array .int)]
/-- the tables' words (all that outlast a warming), the classes, the array classes, the two private constructors -/
def zK (g : zG) (U : State) : Prop := (∀ w, w ∈ lw_tbl → goodWord w = true → w.before #[] U = true) ∧ va_K g.2.1 vwCl (zTys g) U ∧ va_AO "LoggerTwins$Cells" U ∧ va_AO "LoggerTwins$Records" U ∧ va_AO "LoggerTwins$Patch" U ∧ va_Nw (.arrayOver (.array .int)) U ∧ va_Nw (.methodLinkNest RX9 32 yX0_init RX9) U ∧ va_Nw (.methodLinkNest RX9 9 yX8_init RX9) U
theorem zK.warm {g : zG} {s U : State} (hW : s.WarmedH U.vm) (h : zK g s) : zK g U :=
  ⟨fun w hw hg => word_at hW (good_of_word hg) (h.1 w hw hg), va_K.moved hW.alike h.2.1, h.2.2.1.moved hW.alike, h.2.2.2.1.moved hW.alike, h.2.2.2.2.1.moved hW.alike, arrayOver_alikeB hW.alike h.2.2.2.2.2.1, va_Nw.warmM hW h.2.2.2.2.2.2.1, va_Nw.warmM hW h.2.2.2.2.2.2.2⟩
theorem zK.word {g : zG} {s : State} {args : Array Value} {w : Cond} (h : zK g s) (hw : w ∈ lw_tbl) (hg : goodWord w = true) : w.before args s = true := word_at (U := s) (State.WarmedH.refl s) (good_of_word hg) (h.1 w hw hg)
/-- what a call's end says -/
def zQ (g : zG) (post : Option Value → zH → Prop) : Array Value → State → Outcome → State → Prop := fun _ st oc t => ∃ (v : Option Value) (h : zH), oc = .returned v ∧ post v h ∧ zOk g h t.heap ∧ va_F (fun q => g.2.2.2 ≤ q) st t
/-- a CONTRACT: from the world h, with these arguments, the method returns, and post holds of its answer and of the new world -/
def zM (g : zG) (y : MethodName) (cc : ByteArray) (maxL : Nat) (ret : Option FieldType) (rm : Room) (av : List Value) (h : zH) (post : Option Value → zH → Prop) : Prop :=
  Met g.1 y [.code y cc maxL ret] rm (va_Pc av (fun U => zOk g h U.heap ∧ zK g U ∧ g.2.2.2 ≤ U.heap.size)) (zQ g post) rm.cells rm.slots (fun q => g.2.2.2 ≤ q)
/-- what a walk has at hand -/
def zCx (g : zG) (Y : zY) (p : Program) (s : State) (m : MethodId) (args : Array Value) (meth : Method) (c : Code) : Prop :=
  p.tables.exec = Jvm.exec ∧ c.code = Y.2.1 ∧ c.maxLocals = Y.2.2.1 ∧ meth.sig.returnType = Y.2.2.2.1 ∧ s.vm.findClass Y.1 = some m.cls ∧ meth.locks = false ∧ meth.name = Y.2.2.2.2.2.1 ∧ zK g s ∧ g.2.2.2 ≤ s.heap.size ∧ Y.2.2.2.2.2.2 args s
/-- THE WALK's judgement: from this pc, these locals, this stack, this world the machine comes to a state with Q -/
def zZ (g : zG) (Y : zY) (Q : Array Value → List Frame → State → State → Prop) (pc : Nat) (lv : List (Nat × Value)) (st : List Value) (h : zH) (ce sl : Nat) : Prop :=
  ∀ (p : Program) (e : Env) (s : State) (m : MethodId) (args : Array Value) (below : List Frame) (meth : Method) (c : Code) (H : Heap) (locs : List Loc) (ls : Array Slot), zCx g Y p s m args meth c → zOk g h H → va_S (fun q => g.2.2.2 ≤ q) s.heap H locs → lv_has ls Y.2.2.1 lv →
    W p g.1 e Y.2.2.2.2.1 s m args below meth c H locs ce sl (Q args below s) (F0 m pc ls st)
/-- a method's own end -/
def zE (g : zG) (post : Option Value → zH → Prop) (mc ms : Nat) : Array Value → List Frame → State → State → Prop := fun args below s => MQ below (zQ g post) args s mc ms (fun q => g.2.2.2 ≤ q)
/-- a local, by its number -/
def zget : List (Nat × Value) → Nat → Option Value
  | [], _ => none
  | (j, v) :: t, i => cond (Nat.beq j i) (some v) (zget t i)
theorem zget_mem : ∀ {lv : List (Nat × Value)} {i : Nat} {v : Value}, zget lv i = some v → (i, v) ∈ lv
  | [], i, v, h => by cases h
  | (j, w) :: t, i, v, h => by
    unfold zget at h
    cases hb : Nat.beq j i with
    | true =>
      rw [hb] at h
      have e := Nat.eq_of_beq_eq_true hb
      cases h
      subst e
      exact List.mem_cons_self
    | false =>
      rw [hb] at h
      exact List.mem_cons_of_mem _ (zget_mem h)
theorem zget_at {ls : Array Slot} {nL : Nat} {lv : List (Nat × Value)} {i : Nat} {v : Value} (hl : lv_has ls nL lv) (h : zget lv i = some v) : ls[i]? = some (.val v) := hl.2.2 (i, v) (zget_mem h)
def zst1 (lv : List (Nat × Value)) (i : Nat) (v : Value) : List (Nat × Value) := (i, v) :: lv.filter (fun q => !(q.1 == i) && !(q.1 + 1 == i && q.2.category == 2))
def zst2 (lv : List (Nat × Value)) (i : Nat) (v : Value) : List (Nat × Value) := (i, v) :: lv.filter (fun q => !(q.1 == i) && (!(q.1 == i + 1) && !(q.1 + 1 == i && q.2.category == 2)))
/-- these locals stand in those -/
def zsub (lv : List (Nat × Value)) : List (Nat × Value) → Prop
  | [] => True
  | (i, v) :: t => zget lv i = some v ∧ zsub lv t
theorem zsub_has {ls : Array Slot} {nL : Nat} {lv : List (Nat × Value)} (hl : lv_has ls nL lv) : ∀ {lv' : List (Nat × Value)}, zsub lv lv' → lv_has ls nL lv'
  | [], _ => ⟨hl.1, hl.2.1, fun q h => by cases h⟩
  | (i, v) :: t, h => ⟨hl.1, hl.2.1, fun q hq => by
      rcases List.mem_cons.mp hq with e | e
      · subst e; exact zget_at hl h.1
      · exact (zsub_has hl h.2).2.2 q e⟩
theorem zOk.at {g : zG} {h : zH} {H : Heap} (hh : zOk g h H) {a : Nat} {o : zOb} (ho : h.2 a = some o) : va_P g.2.1 vwCl [(a, zEnc g o)] H := by
  intro k q hk
  cases k with
  | zero => cases hk; exact (hh.2 a o ho).2
  | succ k => cases hk
theorem zOk.set {g : zG} {h : zH} {H H1 : Heap} (hh : zOk g h H) {a : Nat} {o0 o : zOb} (ho : h.2 a = some o0) (he : zAt g a o H1) (hz : H1.size = H.size) (hq : ∀ q : Nat, q ≠ a → H1[q]? = H[q]?) : zOk g (h.1, va_up h.2 a (some o)) H1 := by
  refine ⟨hz.trans hh.1, fun b x hb => ?_⟩
  by_cases e : b = a
  · subst e
    have hb' : some o = some x := by simpa [va_up] using hb
    cases hb'
    exact ⟨(hh.2 _ _ ho).1, he⟩
  · have hb' : h.2 b = some x := by simpa [va_up, e] using hb
    exact ⟨(hh.2 _ _ hb').1, (hh.2 _ _ hb').2.kept (hq b e)⟩
theorem zOk.push {g : zG} {h : zH} {H H1 : Heap} (hh : zOk g h H) {o : zOb} (hlo : g.2.2.2 ≤ H.size) (he : zAt g h.1 o H1) (hz : H1.size = h.1 + 1) (hq : ∀ q : Nat, q < h.1 → H1[q]? = H[q]?) : zOk g (h.1 + 1, va_up h.2 h.1 (some o)) H1 := by
  refine ⟨hz, fun b x hb => ?_⟩
  by_cases e : b = h.1
  · subst e
    have hb' : some o = some x := by simpa [va_up] using hb
    cases hb'
    exact ⟨by rw [← hh.1]; exact hlo, he⟩
  · have hb' : h.2 b = some x := by simpa [va_up, e] using hb
    have hl : b < H.size := va_at.lt (hh.2 _ _ hb').2
    exact ⟨(hh.2 _ _ hb').1, (hh.2 _ _ hb').2.kept (hq b (by rw [← hh.1]; exact hl))⟩
theorem zS.push {A : Nat → Prop} {H0 H H1 : Heap} {locs : List Loc} {n : Nat} (hS : va_S A H0 H locs) (hn : H.size = n) (hz : H1.size = n + 1) (hq : ∀ q : Nat, q < n → H1[q]? = H[q]?) : va_S A H0 H1 locs :=
  ⟨Nat.le_trans hS.1 (by omega), fun q h1 h2 => (hq q (by have := hS.1; omega)).trans (hS.2.1 q h1 h2), hS.2.2⟩
section ZZ
variable {g : zG} {Y : zY} {Q : Array Value → List Frame → State → State → Prop} {pc pc0 : Nat} {lv : List (Nat × Value)} {st : List Value} {h : zH} {ce sl : Nat}
/-- fewer locals, in any order -/
theorem z_lv (lv' : List (Nat × Value)) (hs : zsub lv lv') (k : zZ g Y Q pc lv' st h ce sl) : zZ g Y Q pc lv st h ce sl :=
  fun p e s m args below meth c H locs ls C hO hS hl => k p e s m args below meth c H locs ls C hO hS (zsub_has hl hs)
theorem z_widen {ce' sl' : Nat} (h1 : ce ≤ ce') (h2 : sl ≤ sl') (k : zZ g Y Q pc lv st h ce' sl') : zZ g Y Q pc lv st h ce sl :=
  fun p e s m args below meth c H locs ls C hO hS hl => W.widen h1 h2 (k p e s m args below meth c H locs ls C hO hS hl)

theorem z_iconst {n : Int} {v : Int32} (hd : decode Y.2.1 pc = .ok (.iconst n, 1)) (hp : pc0 = pc) (hv : Int32.ofInt n = v) (k : zZ g Y Q (pc + 1) lv (.int v :: st) h ce sl) : zZ g Y Q pc0 lv (st) h ce sl := by
  subst hp
  intro p e s m args below meth c H locs ls C hO hS hl
  exact lv_iconst C.1 C.2.1 hd hv (k p e s m args below meth c H locs ls C hO hS hl)
theorem z_bipush {n : Int} {v : Int32} (hd : decode Y.2.1 pc = .ok (.bipush n, 2)) (hp : pc0 = pc) (hv : (Int8.ofInt n).toInt32 = v) (k : zZ g Y Q (pc + 2) lv (.int v :: st) h ce sl) : zZ g Y Q pc0 lv (st) h ce sl := by
  subst hp
  intro p e s m args below meth c H locs ls C hO hS hl
  exact lv_bipush C.1 C.2.1 hd hv (k p e s m args below meth c H locs ls C hO hS hl)
theorem z_sipush {n : Int} {v : Int32} (hd : decode Y.2.1 pc = .ok (.sipush n, 3)) (hp : pc0 = pc) (hv : (Int16.ofInt n).toInt32 = v) (k : zZ g Y Q (pc + 3) lv (.int v :: st) h ce sl) : zZ g Y Q pc0 lv (st) h ce sl := by
  subst hp
  intro p e s m args below meth c H locs ls C hO hS hl
  exact lv_sipush C.1 C.2.1 hd hv (k p e s m args below meth c H locs ls C hO hS hl)
theorem z_lconst {n : Fin 2} {v : Int64} (hd : decode Y.2.1 pc = .ok (.lconst n, 1)) (hp : pc0 = pc) (hv : Int64.ofNat (n : Nat) = v) (k : zZ g Y Q (pc + 1) lv (.long v :: st) h ce sl) : zZ g Y Q pc0 lv (st) h ce sl := by
  subst hp
  intro p e s m args below meth c H locs ls C hO hS hl
  exact lv_lconst C.1 C.2.1 hd hv (k p e s m args below meth c H locs ls C hO hS hl)
theorem z_fconst0 (hd : decode Y.2.1 pc = .ok (.fconst 0, 1)) (hp : pc0 = pc) (k : zZ g Y Q (pc + 1) lv (.float FP.fconst0 :: st) h ce sl) : zZ g Y Q pc0 lv (st) h ce sl := by
  subst hp
  intro p e s m args below meth c H locs ls C hO hS hl
  exact lv_fconst0 C.1 C.2.1 hd (k p e s m args below meth c H locs ls C hO hS hl)
theorem z_fconst1 (hd : decode Y.2.1 pc = .ok (.fconst 1, 1)) (hp : pc0 = pc) (k : zZ g Y Q (pc + 1) lv (.float FP.fconst1 :: st) h ce sl) : zZ g Y Q pc0 lv (st) h ce sl := by
  subst hp
  intro p e s m args below meth c H locs ls C hO hS hl
  exact lv_fconst1 C.1 C.2.1 hd (k p e s m args below meth c H locs ls C hO hS hl)
theorem z_fconst2 (hd : decode Y.2.1 pc = .ok (.fconst 2, 1)) (hp : pc0 = pc) (k : zZ g Y Q (pc + 1) lv (.float FP.fconst2 :: st) h ce sl) : zZ g Y Q pc0 lv (st) h ce sl := by
  subst hp
  intro p e s m args below meth c H locs ls C hO hS hl
  exact lv_fconst2 C.1 C.2.1 hd (k p e s m args below meth c H locs ls C hO hS hl)
theorem z_dconst0 (hd : decode Y.2.1 pc = .ok (.dconst 0, 1)) (hp : pc0 = pc) (k : zZ g Y Q (pc + 1) lv (.double FP.dconst0 :: st) h ce sl) : zZ g Y Q pc0 lv (st) h ce sl := by
  subst hp
  intro p e s m args below meth c H locs ls C hO hS hl
  exact lv_dconst0 C.1 C.2.1 hd (k p e s m args below meth c H locs ls C hO hS hl)
theorem z_dconst1 (hd : decode Y.2.1 pc = .ok (.dconst 1, 1)) (hp : pc0 = pc) (k : zZ g Y Q (pc + 1) lv (.double FP.dconst1 :: st) h ce sl) : zZ g Y Q pc0 lv (st) h ce sl := by
  subst hp
  intro p e s m args below meth c H locs ls C hO hS hl
  exact lv_dconst1 C.1 C.2.1 hd (k p e s m args below meth c H locs ls C hO hS hl)
theorem z_null (hd : decode Y.2.1 pc = .ok (.aconst_null, 1)) (hp : pc0 = pc) (k : zZ g Y Q (pc + 1) lv (.null :: st) h ce sl) : zZ g Y Q pc0 lv (st) h ce sl := by
  subst hp
  intro p e s m args below meth c H locs ls C hO hS hl
  exact lv_null C.1 C.2.1 hd (k p e s m args below meth c H locs ls C hO hS hl)
theorem z_iload_n {i : Fin 4} {x : Int32} (hd : decode Y.2.1 pc = .ok (.iload_n i, 1)) (hp : pc0 = pc) (hg : zget lv i = some (.int x)) (k : zZ g Y Q (pc + 1) lv (.int x :: st) h ce sl) : zZ g Y Q pc0 lv (st) h ce sl := by
  subst hp
  intro p e s m args below meth c H locs ls C hO hS hl
  exact lv_iload_n C.1 C.2.1 hd rfl (zget_at hl hg) (k p e s m args below meth c H locs ls C hO hS hl)
theorem z_iload {i : Nat} {x : Int32} (hd : decode Y.2.1 pc = .ok (.iload i, 2)) (hp : pc0 = pc) (hg : zget lv i = some (.int x)) (k : zZ g Y Q (pc + 2) lv (.int x :: st) h ce sl) : zZ g Y Q pc0 lv (st) h ce sl := by
  subst hp
  intro p e s m args below meth c H locs ls C hO hS hl
  exact lv_iload C.1 C.2.1 hd (zget_at hl hg) (k p e s m args below meth c H locs ls C hO hS hl)
theorem z_lload_n {i : Fin 4} {x : Int64} (hd : decode Y.2.1 pc = .ok (.lload_n i, 1)) (hp : pc0 = pc) (hg : zget lv i = some (.long x)) (k : zZ g Y Q (pc + 1) lv (.long x :: st) h ce sl) : zZ g Y Q pc0 lv (st) h ce sl := by
  subst hp
  intro p e s m args below meth c H locs ls C hO hS hl
  exact lv_lload_n C.1 C.2.1 hd rfl (zget_at hl hg) (k p e s m args below meth c H locs ls C hO hS hl)
theorem z_lload {i : Nat} {x : Int64} (hd : decode Y.2.1 pc = .ok (.lload i, 2)) (hp : pc0 = pc) (hg : zget lv i = some (.long x)) (k : zZ g Y Q (pc + 2) lv (.long x :: st) h ce sl) : zZ g Y Q pc0 lv (st) h ce sl := by
  subst hp
  intro p e s m args below meth c H locs ls C hO hS hl
  exact lv_lload C.1 C.2.1 hd (zget_at hl hg) (k p e s m args below meth c H locs ls C hO hS hl)
theorem z_fload_n {i : Fin 4} {x : UInt32} (hd : decode Y.2.1 pc = .ok (.fload_n i, 1)) (hp : pc0 = pc) (hg : zget lv i = some (.float x)) (k : zZ g Y Q (pc + 1) lv (.float x :: st) h ce sl) : zZ g Y Q pc0 lv (st) h ce sl := by
  subst hp
  intro p e s m args below meth c H locs ls C hO hS hl
  exact lv_fload_n C.1 C.2.1 hd rfl (zget_at hl hg) (k p e s m args below meth c H locs ls C hO hS hl)
theorem z_fload {i : Nat} {x : UInt32} (hd : decode Y.2.1 pc = .ok (.fload i, 2)) (hp : pc0 = pc) (hg : zget lv i = some (.float x)) (k : zZ g Y Q (pc + 2) lv (.float x :: st) h ce sl) : zZ g Y Q pc0 lv (st) h ce sl := by
  subst hp
  intro p e s m args below meth c H locs ls C hO hS hl
  exact lv_fload C.1 C.2.1 hd (zget_at hl hg) (k p e s m args below meth c H locs ls C hO hS hl)
theorem z_dload_n {i : Fin 4} {x : UInt64} (hd : decode Y.2.1 pc = .ok (.dload_n i, 1)) (hp : pc0 = pc) (hg : zget lv i = some (.double x)) (k : zZ g Y Q (pc + 1) lv (.double x :: st) h ce sl) : zZ g Y Q pc0 lv (st) h ce sl := by
  subst hp
  intro p e s m args below meth c H locs ls C hO hS hl
  exact lv_dload_n C.1 C.2.1 hd rfl (zget_at hl hg) (k p e s m args below meth c H locs ls C hO hS hl)
theorem z_dload {i : Nat} {x : UInt64} (hd : decode Y.2.1 pc = .ok (.dload i, 2)) (hp : pc0 = pc) (hg : zget lv i = some (.double x)) (k : zZ g Y Q (pc + 2) lv (.double x :: st) h ce sl) : zZ g Y Q pc0 lv (st) h ce sl := by
  subst hp
  intro p e s m args below meth c H locs ls C hO hS hl
  exact lv_dload C.1 C.2.1 hd (zget_at hl hg) (k p e s m args below meth c H locs ls C hO hS hl)
theorem z_aload_n {i : Fin 4} {x : Nat} (hd : decode Y.2.1 pc = .ok (.aload_n i, 1)) (hp : pc0 = pc) (hg : zget lv i = some (.ref x)) (k : zZ g Y Q (pc + 1) lv (.ref x :: st) h ce sl) : zZ g Y Q pc0 lv (st) h ce sl := by
  subst hp
  intro p e s m args below meth c H locs ls C hO hS hl
  exact lv_aload_n C.1 C.2.1 hd rfl (zget_at hl hg) (k p e s m args below meth c H locs ls C hO hS hl)
theorem z_aload {i : Nat} {x : Nat} (hd : decode Y.2.1 pc = .ok (.aload i, 2)) (hp : pc0 = pc) (hg : zget lv i = some (.ref x)) (k : zZ g Y Q (pc + 2) lv (.ref x :: st) h ce sl) : zZ g Y Q pc0 lv (st) h ce sl := by
  subst hp
  intro p e s m args below meth c H locs ls C hO hS hl
  exact lv_aload C.1 C.2.1 hd (zget_at hl hg) (k p e s m args below meth c H locs ls C hO hS hl)
theorem z_aload_nN {i : Fin 4} (hd : decode Y.2.1 pc = .ok (.aload_n i, 1)) (hp : pc0 = pc) (hg : zget lv i = some .null) (k : zZ g Y Q (pc + 1) lv (.null :: st) h ce sl) : zZ g Y Q pc0 lv (st) h ce sl := by
  subst hp
  intro p e s m args below meth c H locs ls C hO hS hl
  exact lv_aload_nN C.1 C.2.1 hd rfl (zget_at hl hg) (k p e s m args below meth c H locs ls C hO hS hl)
theorem z_aloadN {i : Nat} (hd : decode Y.2.1 pc = .ok (.aload i, 2)) (hp : pc0 = pc) (hg : zget lv i = some .null) (k : zZ g Y Q (pc + 2) lv (.null :: st) h ce sl) : zZ g Y Q pc0 lv (st) h ce sl := by
  subst hp
  intro p e s m args below meth c H locs ls C hO hS hl
  exact lv_aloadN C.1 C.2.1 hd (zget_at hl hg) (k p e s m args below meth c H locs ls C hO hS hl)
theorem z_istore_n {i : Fin 4} {x : Int32} (hd : decode Y.2.1 pc = .ok (.istore_n i, 1)) (hp : pc0 = pc) (hn : (i : Nat) < Y.2.2.1) (k : zZ g Y Q (pc + 1) (zst1 lv i (.int x)) st h ce sl) : zZ g Y Q pc0 lv ((.int x) :: st) h ce sl := by
  subst hp
  intro p e s m args below meth c H locs ls C hO hS hl
  exact lv_istore_n C.1 C.2.1 hd rfl hl hn rfl (fun ls' hl' => k p e s m args below meth c H locs ls' C hO hS hl')
theorem z_istore {i : Nat} {x : Int32} (hd : decode Y.2.1 pc = .ok (.istore i, 2)) (hp : pc0 = pc) (hn : (i : Nat) < Y.2.2.1) (k : zZ g Y Q (pc + 2) (zst1 lv i (.int x)) st h ce sl) : zZ g Y Q pc0 lv ((.int x) :: st) h ce sl := by
  subst hp
  intro p e s m args below meth c H locs ls C hO hS hl
  exact lv_istore C.1 C.2.1 hd hl hn rfl (fun ls' hl' => k p e s m args below meth c H locs ls' C hO hS hl')
theorem z_lstore_n {i : Fin 4} {x : Int64} (hd : decode Y.2.1 pc = .ok (.lstore_n i, 1)) (hp : pc0 = pc) (hn : (i : Nat) + 1 < Y.2.2.1) (k : zZ g Y Q (pc + 1) (zst2 lv i (.long x)) st h ce sl) : zZ g Y Q pc0 lv ((.long x) :: st) h ce sl := by
  subst hp
  intro p e s m args below meth c H locs ls C hO hS hl
  exact lv_lstore_n C.1 C.2.1 hd rfl hl hn rfl (fun ls' hl' => k p e s m args below meth c H locs ls' C hO hS hl')
theorem z_lstore {i : Nat} {x : Int64} (hd : decode Y.2.1 pc = .ok (.lstore i, 2)) (hp : pc0 = pc) (hn : (i : Nat) + 1 < Y.2.2.1) (k : zZ g Y Q (pc + 2) (zst2 lv i (.long x)) st h ce sl) : zZ g Y Q pc0 lv ((.long x) :: st) h ce sl := by
  subst hp
  intro p e s m args below meth c H locs ls C hO hS hl
  exact lv_lstore C.1 C.2.1 hd hl hn rfl (fun ls' hl' => k p e s m args below meth c H locs ls' C hO hS hl')
theorem z_fstore_n {i : Fin 4} {x : UInt32} (hd : decode Y.2.1 pc = .ok (.fstore_n i, 1)) (hp : pc0 = pc) (hn : (i : Nat) < Y.2.2.1) (k : zZ g Y Q (pc + 1) (zst1 lv i (.float x)) st h ce sl) : zZ g Y Q pc0 lv ((.float x) :: st) h ce sl := by
  subst hp
  intro p e s m args below meth c H locs ls C hO hS hl
  exact lv_fstore_n C.1 C.2.1 hd rfl hl hn rfl (fun ls' hl' => k p e s m args below meth c H locs ls' C hO hS hl')
theorem z_fstore {i : Nat} {x : UInt32} (hd : decode Y.2.1 pc = .ok (.fstore i, 2)) (hp : pc0 = pc) (hn : (i : Nat) < Y.2.2.1) (k : zZ g Y Q (pc + 2) (zst1 lv i (.float x)) st h ce sl) : zZ g Y Q pc0 lv ((.float x) :: st) h ce sl := by
  subst hp
  intro p e s m args below meth c H locs ls C hO hS hl
  exact lv_fstore C.1 C.2.1 hd hl hn rfl (fun ls' hl' => k p e s m args below meth c H locs ls' C hO hS hl')
theorem z_dstore_n {i : Fin 4} {x : UInt64} (hd : decode Y.2.1 pc = .ok (.dstore_n i, 1)) (hp : pc0 = pc) (hn : (i : Nat) + 1 < Y.2.2.1) (k : zZ g Y Q (pc + 1) (zst2 lv i (.double x)) st h ce sl) : zZ g Y Q pc0 lv ((.double x) :: st) h ce sl := by
  subst hp
  intro p e s m args below meth c H locs ls C hO hS hl
  exact lv_dstore_n C.1 C.2.1 hd rfl hl hn rfl (fun ls' hl' => k p e s m args below meth c H locs ls' C hO hS hl')
theorem z_dstore {i : Nat} {x : UInt64} (hd : decode Y.2.1 pc = .ok (.dstore i, 2)) (hp : pc0 = pc) (hn : (i : Nat) + 1 < Y.2.2.1) (k : zZ g Y Q (pc + 2) (zst2 lv i (.double x)) st h ce sl) : zZ g Y Q pc0 lv ((.double x) :: st) h ce sl := by
  subst hp
  intro p e s m args below meth c H locs ls C hO hS hl
  exact lv_dstore C.1 C.2.1 hd hl hn rfl (fun ls' hl' => k p e s m args below meth c H locs ls' C hO hS hl')
theorem z_astore_n {i : Fin 4} {x : Nat} (hd : decode Y.2.1 pc = .ok (.astore_n i, 1)) (hp : pc0 = pc) (hn : (i : Nat) < Y.2.2.1) (k : zZ g Y Q (pc + 1) (zst1 lv i (.ref x)) st h ce sl) : zZ g Y Q pc0 lv ((.ref x) :: st) h ce sl := by
  subst hp
  intro p e s m args below meth c H locs ls C hO hS hl
  exact lv_astore_n C.1 C.2.1 hd rfl hl hn rfl (fun ls' hl' => k p e s m args below meth c H locs ls' C hO hS hl')
theorem z_astore {i : Nat} {x : Nat} (hd : decode Y.2.1 pc = .ok (.astore i, 2)) (hp : pc0 = pc) (hn : (i : Nat) < Y.2.2.1) (k : zZ g Y Q (pc + 2) (zst1 lv i (.ref x)) st h ce sl) : zZ g Y Q pc0 lv ((.ref x) :: st) h ce sl := by
  subst hp
  intro p e s m args below meth c H locs ls C hO hS hl
  exact lv_astore C.1 C.2.1 hd hl hn rfl (fun ls' hl' => k p e s m args below meth c H locs ls' C hO hS hl')
theorem z_astore_nN {i : Fin 4} (hd : decode Y.2.1 pc = .ok (.astore_n i, 1)) (hp : pc0 = pc) (hn : (i : Nat) < Y.2.2.1) (k : zZ g Y Q (pc + 1) (zst1 lv i .null) st h ce sl) : zZ g Y Q pc0 lv (.null :: st) h ce sl := by
  subst hp
  intro p e s m args below meth c H locs ls C hO hS hl
  exact lv_astore_nN C.1 C.2.1 hd rfl hl hn rfl (fun ls' hl' => k p e s m args below meth c H locs ls' C hO hS hl')
theorem z_astoreN {i : Nat} (hd : decode Y.2.1 pc = .ok (.astore i, 2)) (hp : pc0 = pc) (hn : (i : Nat) < Y.2.2.1) (k : zZ g Y Q (pc + 2) (zst1 lv i .null) st h ce sl) : zZ g Y Q pc0 lv (.null :: st) h ce sl := by
  subst hp
  intro p e s m args below meth c H locs ls C hO hS hl
  exact lv_astoreN C.1 C.2.1 hd hl hn rfl (fun ls' hl' => k p e s m args below meth c H locs ls' C hO hS hl')
theorem zget_pos : ∀ {lv : List (Nat × Value)} {i : Nat} {v : Value}, zget lv i = some v → ∃ k : Nat, lv[k]? = some (i, v) := fun h => List.getElem?_of_mem (zget_mem h)
theorem z_iinc {i : Nat} {n : Int} {x v : Int32} (hd : decode Y.2.1 pc = .ok (.iinc i n, 3)) (hp : pc0 = pc) (hg : zget lv i = some (.int x)) (hv : x + Int32.ofInt n = v) (hn : i < Y.2.2.1) (k : zZ g Y Q (pc + 3) (zst1 lv i (.int v)) st h ce sl) : zZ g Y Q pc0 lv st h ce sl := by
  subst hp
  intro p e s m args below meth c H locs ls C hO hS hl
  obtain ⟨j, hj⟩ := zget_pos hg
  exact lv_iinc C.1 C.2.1 hd hl (k := j) hj hv hn rfl (fun ls' hl' => k p e s m args below meth c H locs ls' C hO hS hl')
theorem z_iadd {x y : Int32} (hd : decode Y.2.1 pc = .ok (.iadd, 1)) (hp : pc0 = pc) (k : zZ g Y Q (pc + 1) lv (.int (x + y) :: st) h ce sl) : zZ g Y Q pc0 lv (.int y :: .int x :: st) h ce sl := by
  subst hp
  intro p e s m args below meth c H locs ls C hO hS hl
  exact lv_iadd C.1 C.2.1 hd (k p e s m args below meth c H locs ls C hO hS hl)
theorem z_isub {x y : Int32} (hd : decode Y.2.1 pc = .ok (.isub, 1)) (hp : pc0 = pc) (k : zZ g Y Q (pc + 1) lv (.int (x - y) :: st) h ce sl) : zZ g Y Q pc0 lv (.int y :: .int x :: st) h ce sl := by
  subst hp
  intro p e s m args below meth c H locs ls C hO hS hl
  exact lv_isub C.1 C.2.1 hd (k p e s m args below meth c H locs ls C hO hS hl)
theorem z_imul {x y : Int32} (hd : decode Y.2.1 pc = .ok (.imul, 1)) (hp : pc0 = pc) (k : zZ g Y Q (pc + 1) lv (.int (x * y) :: st) h ce sl) : zZ g Y Q pc0 lv (.int y :: .int x :: st) h ce sl := by
  subst hp
  intro p e s m args below meth c H locs ls C hO hS hl
  exact lv_imul C.1 C.2.1 hd (k p e s m args below meth c H locs ls C hO hS hl)
theorem z_iand {x y : Int32} (hd : decode Y.2.1 pc = .ok (.iand, 1)) (hp : pc0 = pc) (k : zZ g Y Q (pc + 1) lv (.int (x &&& y) :: st) h ce sl) : zZ g Y Q pc0 lv (.int y :: .int x :: st) h ce sl := by
  subst hp
  intro p e s m args below meth c H locs ls C hO hS hl
  exact lv_iand C.1 C.2.1 hd (k p e s m args below meth c H locs ls C hO hS hl)
theorem z_idiv {x y : Int32} (hd : decode Y.2.1 pc = .ok (.idiv, 1)) (hp : pc0 = pc) (hne : ¬ y = 0) (k : zZ g Y Q (pc + 1) lv (.int (x / y) :: st) h ce sl) : zZ g Y Q pc0 lv (.int y :: .int x :: st) h ce sl := by
  subst hp
  intro p e s m args below meth c H locs ls C hO hS hl
  exact lv_idiv C.1 C.2.1 hd hne (k p e s m args below meth c H locs ls C hO hS hl)
theorem z_irem {x y : Int32} (hd : decode Y.2.1 pc = .ok (.irem, 1)) (hp : pc0 = pc) (hne : ¬ y = 0) (k : zZ g Y Q (pc + 1) lv (.int (x - x / y * y) :: st) h ce sl) : zZ g Y Q pc0 lv (.int y :: .int x :: st) h ce sl := by
  subst hp
  intro p e s m args below meth c H locs ls C hO hS hl
  exact lv_irem C.1 C.2.1 hd hne (k p e s m args below meth c H locs ls C hO hS hl)
theorem z_ineg {x : Int32} (hd : decode Y.2.1 pc = .ok (.ineg, 1)) (hp : pc0 = pc) (k : zZ g Y Q (pc + 1) lv (.int (-x) :: st) h ce sl) : zZ g Y Q pc0 lv (.int x :: st) h ce sl := by
  subst hp
  intro p e s m args below meth c H locs ls C hO hS hl
  exact lv_ineg C.1 C.2.1 hd (k p e s m args below meth c H locs ls C hO hS hl)
theorem z_ishr {x y : Int32} (hd : decode Y.2.1 pc = .ok (.ishr, 1)) (hp : pc0 = pc) (k : zZ g Y Q (pc + 1) lv (.int (x >>> (y &&& 31)) :: st) h ce sl) : zZ g Y Q pc0 lv (.int y :: .int x :: st) h ce sl := by
  subst hp
  intro p e s m args below meth c H locs ls C hO hS hl
  exact lv_ishr C.1 C.2.1 hd (k p e s m args below meth c H locs ls C hO hS hl)
theorem z_ladd {x y : Int64} (hd : decode Y.2.1 pc = .ok (.ladd, 1)) (hp : pc0 = pc) (k : zZ g Y Q (pc + 1) lv (.long (x + y) :: st) h ce sl) : zZ g Y Q pc0 lv (.long y :: .long x :: st) h ce sl := by
  subst hp
  intro p e s m args below meth c H locs ls C hO hS hl
  exact lv_ladd C.1 C.2.1 hd (k p e s m args below meth c H locs ls C hO hS hl)
theorem z_lsub {x y : Int64} (hd : decode Y.2.1 pc = .ok (.lsub, 1)) (hp : pc0 = pc) (k : zZ g Y Q (pc + 1) lv (.long (x - y) :: st) h ce sl) : zZ g Y Q pc0 lv (.long y :: .long x :: st) h ce sl := by
  subst hp
  intro p e s m args below meth c H locs ls C hO hS hl
  exact lv_lsub C.1 C.2.1 hd (k p e s m args below meth c H locs ls C hO hS hl)
theorem z_lmul {x y : Int64} (hd : decode Y.2.1 pc = .ok (.lmul, 1)) (hp : pc0 = pc) (k : zZ g Y Q (pc + 1) lv (.long (x * y) :: st) h ce sl) : zZ g Y Q pc0 lv (.long y :: .long x :: st) h ce sl := by
  subst hp
  intro p e s m args below meth c H locs ls C hO hS hl
  exact lv_lmul C.1 C.2.1 hd (k p e s m args below meth c H locs ls C hO hS hl)
theorem z_land {x y : Int64} (hd : decode Y.2.1 pc = .ok (.land, 1)) (hp : pc0 = pc) (k : zZ g Y Q (pc + 1) lv (.long (x &&& y) :: st) h ce sl) : zZ g Y Q pc0 lv (.long y :: .long x :: st) h ce sl := by
  subst hp
  intro p e s m args below meth c H locs ls C hO hS hl
  exact lv_land C.1 C.2.1 hd (k p e s m args below meth c H locs ls C hO hS hl)
theorem z_lxor {x y : Int64} (hd : decode Y.2.1 pc = .ok (.lxor, 1)) (hp : pc0 = pc) (k : zZ g Y Q (pc + 1) lv (.long (x ^^^ y) :: st) h ce sl) : zZ g Y Q pc0 lv (.long y :: .long x :: st) h ce sl := by
  subst hp
  intro p e s m args below meth c H locs ls C hO hS hl
  exact lv_lxor C.1 C.2.1 hd (k p e s m args below meth c H locs ls C hO hS hl)
theorem z_lrem {x y : Int64} (hd : decode Y.2.1 pc = .ok (.lrem, 1)) (hp : pc0 = pc) (hne : ¬ y = 0) (k : zZ g Y Q (pc + 1) lv (.long (x - x / y * y) :: st) h ce sl) : zZ g Y Q pc0 lv (.long y :: .long x :: st) h ce sl := by
  subst hp
  intro p e s m args below meth c H locs ls C hO hS hl
  exact lv_lrem C.1 C.2.1 hd hne (k p e s m args below meth c H locs ls C hO hS hl)
theorem z_lshl {x : Int64} {y : Int32} (hd : decode Y.2.1 pc = .ok (.lshl, 1)) (hp : pc0 = pc) (k : zZ g Y Q (pc + 1) lv (.long (x <<< (y.toInt64 &&& 63)) :: st) h ce sl) : zZ g Y Q pc0 lv (.int y :: .long x :: st) h ce sl := by
  subst hp
  intro p e s m args below meth c H locs ls C hO hS hl
  exact lv_lshl C.1 C.2.1 hd rfl (k p e s m args below meth c H locs ls C hO hS hl)
theorem z_lshr {x : Int64} {y : Int32} (hd : decode Y.2.1 pc = .ok (.lshr, 1)) (hp : pc0 = pc) (k : zZ g Y Q (pc + 1) lv (.long (x >>> (y.toInt64 &&& 63)) :: st) h ce sl) : zZ g Y Q pc0 lv (.int y :: .long x :: st) h ce sl := by
  subst hp
  intro p e s m args below meth c H locs ls C hO hS hl
  exact lv_lshr C.1 C.2.1 hd rfl (k p e s m args below meth c H locs ls C hO hS hl)
theorem z_i2l {x : Int32} (hd : decode Y.2.1 pc = .ok (.i2l, 1)) (hp : pc0 = pc) (k : zZ g Y Q (pc + 1) lv (.long x.toInt64 :: st) h ce sl) : zZ g Y Q pc0 lv (.int x :: st) h ce sl := by
  subst hp
  intro p e s m args below meth c H locs ls C hO hS hl
  exact lv_i2l C.1 C.2.1 hd rfl (k p e s m args below meth c H locs ls C hO hS hl)
theorem z_l2i {x : Int64} (hd : decode Y.2.1 pc = .ok (.l2i, 1)) (hp : pc0 = pc) (k : zZ g Y Q (pc + 1) lv (.int x.toInt32 :: st) h ce sl) : zZ g Y Q pc0 lv (.long x :: st) h ce sl := by
  subst hp
  intro p e s m args below meth c H locs ls C hO hS hl
  exact lv_l2i C.1 C.2.1 hd rfl (k p e s m args below meth c H locs ls C hO hS hl)
theorem z_i2b {x : Int32} (hd : decode Y.2.1 pc = .ok (.i2b, 1)) (hp : pc0 = pc) (k : zZ g Y Q (pc + 1) lv (.int x.toInt8.toInt32 :: st) h ce sl) : zZ g Y Q pc0 lv (.int x :: st) h ce sl := by
  subst hp
  intro p e s m args below meth c H locs ls C hO hS hl
  exact lv_i2b C.1 C.2.1 hd rfl (k p e s m args below meth c H locs ls C hO hS hl)
theorem z_i2s {x : Int32} (hd : decode Y.2.1 pc = .ok (.i2s, 1)) (hp : pc0 = pc) (k : zZ g Y Q (pc + 1) lv (.int x.toInt16.toInt32 :: st) h ce sl) : zZ g Y Q pc0 lv (.int x :: st) h ce sl := by
  subst hp
  intro p e s m args below meth c H locs ls C hO hS hl
  exact lv_i2s C.1 C.2.1 hd rfl (k p e s m args below meth c H locs ls C hO hS hl)
theorem z_i2c {x : Int32} (hd : decode Y.2.1 pc = .ok (.i2c, 1)) (hp : pc0 = pc) (k : zZ g Y Q (pc + 1) lv (.int (x.toUInt32 % 65536).toInt32 :: st) h ce sl) : zZ g Y Q pc0 lv (.int x :: st) h ce sl := by
  subst hp
  intro p e s m args below meth c H locs ls C hO hS hl
  exact lv_i2c C.1 C.2.1 hd rfl (k p e s m args below meth c H locs ls C hO hS hl)
theorem z_lcmp {x y : Int64} (hd : decode Y.2.1 pc = .ok (.lcmp, 1)) (hp : pc0 = pc) (k : zZ g Y Q (pc + 1) lv (.int (lg_cmp x y) :: st) h ce sl) : zZ g Y Q pc0 lv (.long y :: .long x :: st) h ce sl := by
  subst hp
  intro p e s m args below meth c H locs ls C hO hS hl
  exact W.lcmp C.1 C.2.1 hd (k p e s m args below meth c H locs ls C hO hS hl)
theorem z_dup {va : Value} (hd : decode Y.2.1 pc = .ok (.dup, 1)) (hp : pc0 = pc) (hc : va.category = 1) (k : zZ g Y Q (pc + 1) lv (va :: va :: st) h ce sl) : zZ g Y Q pc0 lv (va :: st) h ce sl := by
  subst hp
  intro p e s m args below meth c H locs ls C hO hS hl
  exact lv_dup C.1 C.2.1 hd hc (k p e s m args below meth c H locs ls C hO hS hl)
theorem z_dup2 {va vb : Value} (hd : decode Y.2.1 pc = .ok (.dup2, 1)) (hp : pc0 = pc) (hc : va.category = 1) (hc2 : vb.category = 1) (k : zZ g Y Q (pc + 1) lv (va :: vb :: va :: vb :: st) h ce sl) : zZ g Y Q pc0 lv (va :: vb :: st) h ce sl := by
  subst hp
  intro p e s m args below meth c H locs ls C hO hS hl
  exact lv_dup2_11 C.1 C.2.1 hd hc hc2 (k p e s m args below meth c H locs ls C hO hS hl)
theorem z_fadd {x y : UInt32} (hd : decode Y.2.1 pc = .ok (.fadd, 1)) (hp : pc0 = pc) (hne : vf_n32 (FP.fadd x y)) (k : zZ g Y Q (pc + 1) lv (.float (FP.fadd x y) :: st) h ce sl) : zZ g Y Q pc0 lv (.float y :: .float x :: st) h ce sl := by
  subst hp
  intro p e s m args below meth c H locs ls C hO hS hl
  exact lv_fadd C.1 C.2.1 hd hne (k p e s m args below meth c H locs ls C hO hS hl)
theorem z_fmul {x y : UInt32} (hd : decode Y.2.1 pc = .ok (.fmul, 1)) (hp : pc0 = pc) (hne : vf_n32 (FP.fmul x y)) (k : zZ g Y Q (pc + 1) lv (.float (FP.fmul x y) :: st) h ce sl) : zZ g Y Q pc0 lv (.float y :: .float x :: st) h ce sl := by
  subst hp
  intro p e s m args below meth c H locs ls C hO hS hl
  exact lv_fmul C.1 C.2.1 hd hne (k p e s m args below meth c H locs ls C hO hS hl)
theorem z_fcmp {x y : UInt32} {op : CmpOp} (hd : decode Y.2.1 pc = .ok (.fcmp op, 1)) (hp : pc0 = pc) (k : zZ g Y Q (pc + 1) lv (.int (Op.cmpValue (FP.fcmp x y) op) :: st) h ce sl) : zZ g Y Q pc0 lv (.float y :: .float x :: st) h ce sl := by
  subst hp
  intro p e s m args below meth c H locs ls C hO hS hl
  exact lv_fcmp C.1 C.2.1 hd (k p e s m args below meth c H locs ls C hO hS hl)
theorem z_i2f {x : Int32} (hd : decode Y.2.1 pc = .ok (.i2f, 1)) (hp : pc0 = pc) (k : zZ g Y Q (pc + 1) lv (.float (FP.i2f x) :: st) h ce sl) : zZ g Y Q pc0 lv (.int x :: st) h ce sl := by
  subst hp
  intro p e s m args below meth c H locs ls C hO hS hl
  exact lv_i2f C.1 C.2.1 hd (k p e s m args below meth c H locs ls C hO hS hl)
theorem z_l2f {x : Int64} (hd : decode Y.2.1 pc = .ok (.l2f, 1)) (hp : pc0 = pc) (k : zZ g Y Q (pc + 1) lv (.float (FP.l2f x) :: st) h ce sl) : zZ g Y Q pc0 lv (.long x :: st) h ce sl := by
  subst hp
  intro p e s m args below meth c H locs ls C hO hS hl
  exact lv_l2f C.1 C.2.1 hd (k p e s m args below meth c H locs ls C hO hS hl)
theorem z_dadd {x y : UInt64} (hd : decode Y.2.1 pc = .ok (.dadd, 1)) (hp : pc0 = pc) (hne : vf_n64 (FP.dadd x y)) (k : zZ g Y Q (pc + 1) lv (.double (FP.dadd x y) :: st) h ce sl) : zZ g Y Q pc0 lv (.double y :: .double x :: st) h ce sl := by
  subst hp
  intro p e s m args below meth c H locs ls C hO hS hl
  exact lv_dadd C.1 C.2.1 hd hne (k p e s m args below meth c H locs ls C hO hS hl)
theorem z_dsub {x y : UInt64} (hd : decode Y.2.1 pc = .ok (.dsub, 1)) (hp : pc0 = pc) (hne : vf_n64 (FP.dsub x y)) (k : zZ g Y Q (pc + 1) lv (.double (FP.dsub x y) :: st) h ce sl) : zZ g Y Q pc0 lv (.double y :: .double x :: st) h ce sl := by
  subst hp
  intro p e s m args below meth c H locs ls C hO hS hl
  exact lv_dsub C.1 C.2.1 hd hne (k p e s m args below meth c H locs ls C hO hS hl)
theorem z_dmul {x y : UInt64} (hd : decode Y.2.1 pc = .ok (.dmul, 1)) (hp : pc0 = pc) (hne : vf_n64 (FP.dmul x y)) (k : zZ g Y Q (pc + 1) lv (.double (FP.dmul x y) :: st) h ce sl) : zZ g Y Q pc0 lv (.double y :: .double x :: st) h ce sl := by
  subst hp
  intro p e s m args below meth c H locs ls C hO hS hl
  exact lv_dmul C.1 C.2.1 hd hne (k p e s m args below meth c H locs ls C hO hS hl)
theorem z_dneg {x : UInt64} (hd : decode Y.2.1 pc = .ok (.dneg, 1)) (hp : pc0 = pc) (k : zZ g Y Q (pc + 1) lv (.double (FP.dneg x) :: st) h ce sl) : zZ g Y Q pc0 lv (.double x :: st) h ce sl := by
  subst hp
  intro p e s m args below meth c H locs ls C hO hS hl
  exact lv_dneg C.1 C.2.1 hd (k p e s m args below meth c H locs ls C hO hS hl)
theorem z_dcmp {x y : UInt64} {op : CmpOp} (hd : decode Y.2.1 pc = .ok (.dcmp op, 1)) (hp : pc0 = pc) (k : zZ g Y Q (pc + 1) lv (.int (Op.cmpValue (FP.dcmp x y) op) :: st) h ce sl) : zZ g Y Q pc0 lv (.double y :: .double x :: st) h ce sl := by
  subst hp
  intro p e s m args below meth c H locs ls C hO hS hl
  exact lv_dcmp C.1 C.2.1 hd (k p e s m args below meth c H locs ls C hO hS hl)
theorem z_i2d {x : Int32} (hd : decode Y.2.1 pc = .ok (.i2d, 1)) (hp : pc0 = pc) (k : zZ g Y Q (pc + 1) lv (.double (FP.i2d x) :: st) h ce sl) : zZ g Y Q pc0 lv (.int x :: st) h ce sl := by
  subst hp
  intro p e s m args below meth c H locs ls C hO hS hl
  exact lv_i2d C.1 C.2.1 hd (k p e s m args below meth c H locs ls C hO hS hl)
theorem z_l2d {x : Int64} (hd : decode Y.2.1 pc = .ok (.l2d, 1)) (hp : pc0 = pc) (k : zZ g Y Q (pc + 1) lv (.double (FP.l2d x) :: st) h ce sl) : zZ g Y Q pc0 lv (.long x :: st) h ce sl := by
  subst hp
  intro p e s m args below meth c H locs ls C hO hS hl
  exact lv_l2d C.1 C.2.1 hd (k p e s m args below meth c H locs ls C hO hS hl)
theorem z_d2l {x : UInt64} (hd : decode Y.2.1 pc = .ok (.d2l, 1)) (hp : pc0 = pc) (k : zZ g Y Q (pc + 1) lv (.long (FP.d2l x) :: st) h ce sl) : zZ g Y Q pc0 lv (.double x :: st) h ce sl := by
  subst hp
  intro p e s m args below meth c H locs ls C hO hS hl
  exact lv_d2l C.1 C.2.1 hd (k p e s m args below meth c H locs ls C hO hS hl)
theorem z_f2d {x : UInt32} (hd : decode Y.2.1 pc = .ok (.f2d, 1)) (hp : pc0 = pc) (hne : vf_n64 (FP.f2d x)) (k : zZ g Y Q (pc + 1) lv (.double (FP.f2d x) :: st) h ce sl) : zZ g Y Q pc0 lv (.float x :: st) h ce sl := by
  subst hp
  intro p e s m args below meth c H locs ls C hO hS hl
  exact lv_f2d C.1 C.2.1 hd hne (k p e s m args below meth c H locs ls C hO hS hl)
theorem z_d2f {x : UInt64} (hd : decode Y.2.1 pc = .ok (.d2f, 1)) (hp : pc0 = pc) (hne : vf_n32 (FP.d2f x)) (k : zZ g Y Q (pc + 1) lv (.float (FP.d2f x) :: st) h ce sl) : zZ g Y Q pc0 lv (.double x :: st) h ce sl := by
  subst hp
  intro p e s m args below meth c H locs ls C hO hS hl
  exact lv_d2f C.1 C.2.1 hd hne (k p e s m args below meth c H locs ls C hO hS hl)
theorem z_if_eq {x : Int32} {off : Int} {tgt : Nat} (hd : decode Y.2.1 pc = .ok (.ifCond .eq off, 3)) (hp : pc0 = pc) (ht : (pc : Int) + off = (tgt : Int)) (kt : x = 0 → zZ g Y Q tgt lv st h ce sl) (kf : ¬ x = 0 → zZ g Y Q (pc + 3) lv st h ce sl) : zZ g Y Q pc0 lv (.int x :: st) h ce sl := by
  subst hp
  intro p e s m args below meth c H locs ls C hO hS hl
  exact lv_if_eq C.1 C.2.1 hd ht (fun hc => kt hc p e s m args below meth c H locs ls C hO hS hl) (fun hc => kf hc p e s m args below meth c H locs ls C hO hS hl)
theorem z_icmp_eq {x y : Int32} {off : Int} {tgt : Nat} (hd : decode Y.2.1 pc = .ok (.if_icmp .eq off, 3)) (hp : pc0 = pc) (ht : (pc : Int) + off = (tgt : Int)) (kt : x = y → zZ g Y Q tgt lv st h ce sl) (kf : ¬ x = y → zZ g Y Q (pc + 3) lv st h ce sl) : zZ g Y Q pc0 lv (.int y :: .int x :: st) h ce sl := by
  subst hp
  intro p e s m args below meth c H locs ls C hO hS hl
  exact lv_icmp_eq C.1 C.2.1 hd ht (fun hc => kt hc p e s m args below meth c H locs ls C hO hS hl) (fun hc => kf hc p e s m args below meth c H locs ls C hO hS hl)
theorem z_if_ne {x : Int32} {off : Int} {tgt : Nat} (hd : decode Y.2.1 pc = .ok (.ifCond .ne off, 3)) (hp : pc0 = pc) (ht : (pc : Int) + off = (tgt : Int)) (kt : ¬ x = 0 → zZ g Y Q tgt lv st h ce sl) (kf : x = 0 → zZ g Y Q (pc + 3) lv st h ce sl) : zZ g Y Q pc0 lv (.int x :: st) h ce sl := by
  subst hp
  intro p e s m args below meth c H locs ls C hO hS hl
  exact lv_if_ne C.1 C.2.1 hd ht (fun hc => kt hc p e s m args below meth c H locs ls C hO hS hl) (fun hc => kf hc p e s m args below meth c H locs ls C hO hS hl)
theorem z_icmp_ne {x y : Int32} {off : Int} {tgt : Nat} (hd : decode Y.2.1 pc = .ok (.if_icmp .ne off, 3)) (hp : pc0 = pc) (ht : (pc : Int) + off = (tgt : Int)) (kt : ¬ x = y → zZ g Y Q tgt lv st h ce sl) (kf : x = y → zZ g Y Q (pc + 3) lv st h ce sl) : zZ g Y Q pc0 lv (.int y :: .int x :: st) h ce sl := by
  subst hp
  intro p e s m args below meth c H locs ls C hO hS hl
  exact lv_icmp_ne C.1 C.2.1 hd ht (fun hc => kt hc p e s m args below meth c H locs ls C hO hS hl) (fun hc => kf hc p e s m args below meth c H locs ls C hO hS hl)
theorem z_if_lt {x : Int32} {off : Int} {tgt : Nat} (hd : decode Y.2.1 pc = .ok (.ifCond .lt off, 3)) (hp : pc0 = pc) (ht : (pc : Int) + off = (tgt : Int)) (kt : x < 0 → zZ g Y Q tgt lv st h ce sl) (kf : ¬ x < 0 → zZ g Y Q (pc + 3) lv st h ce sl) : zZ g Y Q pc0 lv (.int x :: st) h ce sl := by
  subst hp
  intro p e s m args below meth c H locs ls C hO hS hl
  exact lv_if_lt C.1 C.2.1 hd ht (fun hc => kt hc p e s m args below meth c H locs ls C hO hS hl) (fun hc => kf hc p e s m args below meth c H locs ls C hO hS hl)
theorem z_icmp_lt {x y : Int32} {off : Int} {tgt : Nat} (hd : decode Y.2.1 pc = .ok (.if_icmp .lt off, 3)) (hp : pc0 = pc) (ht : (pc : Int) + off = (tgt : Int)) (kt : x < y → zZ g Y Q tgt lv st h ce sl) (kf : ¬ x < y → zZ g Y Q (pc + 3) lv st h ce sl) : zZ g Y Q pc0 lv (.int y :: .int x :: st) h ce sl := by
  subst hp
  intro p e s m args below meth c H locs ls C hO hS hl
  exact lv_icmp_lt C.1 C.2.1 hd ht (fun hc => kt hc p e s m args below meth c H locs ls C hO hS hl) (fun hc => kf hc p e s m args below meth c H locs ls C hO hS hl)
theorem z_if_ge {x : Int32} {off : Int} {tgt : Nat} (hd : decode Y.2.1 pc = .ok (.ifCond .ge off, 3)) (hp : pc0 = pc) (ht : (pc : Int) + off = (tgt : Int)) (kt : 0 ≤ x → zZ g Y Q tgt lv st h ce sl) (kf : ¬ 0 ≤ x → zZ g Y Q (pc + 3) lv st h ce sl) : zZ g Y Q pc0 lv (.int x :: st) h ce sl := by
  subst hp
  intro p e s m args below meth c H locs ls C hO hS hl
  exact lv_if_ge C.1 C.2.1 hd ht (fun hc => kt hc p e s m args below meth c H locs ls C hO hS hl) (fun hc => kf hc p e s m args below meth c H locs ls C hO hS hl)
theorem z_icmp_ge {x y : Int32} {off : Int} {tgt : Nat} (hd : decode Y.2.1 pc = .ok (.if_icmp .ge off, 3)) (hp : pc0 = pc) (ht : (pc : Int) + off = (tgt : Int)) (kt : y ≤ x → zZ g Y Q tgt lv st h ce sl) (kf : ¬ y ≤ x → zZ g Y Q (pc + 3) lv st h ce sl) : zZ g Y Q pc0 lv (.int y :: .int x :: st) h ce sl := by
  subst hp
  intro p e s m args below meth c H locs ls C hO hS hl
  exact lv_icmp_ge C.1 C.2.1 hd ht (fun hc => kt hc p e s m args below meth c H locs ls C hO hS hl) (fun hc => kf hc p e s m args below meth c H locs ls C hO hS hl)
theorem z_if_gt {x : Int32} {off : Int} {tgt : Nat} (hd : decode Y.2.1 pc = .ok (.ifCond .gt off, 3)) (hp : pc0 = pc) (ht : (pc : Int) + off = (tgt : Int)) (kt : 0 < x → zZ g Y Q tgt lv st h ce sl) (kf : ¬ 0 < x → zZ g Y Q (pc + 3) lv st h ce sl) : zZ g Y Q pc0 lv (.int x :: st) h ce sl := by
  subst hp
  intro p e s m args below meth c H locs ls C hO hS hl
  exact lv_if_gt C.1 C.2.1 hd ht (fun hc => kt hc p e s m args below meth c H locs ls C hO hS hl) (fun hc => kf hc p e s m args below meth c H locs ls C hO hS hl)
theorem z_icmp_gt {x y : Int32} {off : Int} {tgt : Nat} (hd : decode Y.2.1 pc = .ok (.if_icmp .gt off, 3)) (hp : pc0 = pc) (ht : (pc : Int) + off = (tgt : Int)) (kt : y < x → zZ g Y Q tgt lv st h ce sl) (kf : ¬ y < x → zZ g Y Q (pc + 3) lv st h ce sl) : zZ g Y Q pc0 lv (.int y :: .int x :: st) h ce sl := by
  subst hp
  intro p e s m args below meth c H locs ls C hO hS hl
  exact lv_icmp_gt C.1 C.2.1 hd ht (fun hc => kt hc p e s m args below meth c H locs ls C hO hS hl) (fun hc => kf hc p e s m args below meth c H locs ls C hO hS hl)
theorem z_if_le {x : Int32} {off : Int} {tgt : Nat} (hd : decode Y.2.1 pc = .ok (.ifCond .le off, 3)) (hp : pc0 = pc) (ht : (pc : Int) + off = (tgt : Int)) (kt : x ≤ 0 → zZ g Y Q tgt lv st h ce sl) (kf : ¬ x ≤ 0 → zZ g Y Q (pc + 3) lv st h ce sl) : zZ g Y Q pc0 lv (.int x :: st) h ce sl := by
  subst hp
  intro p e s m args below meth c H locs ls C hO hS hl
  exact lv_if_le C.1 C.2.1 hd ht (fun hc => kt hc p e s m args below meth c H locs ls C hO hS hl) (fun hc => kf hc p e s m args below meth c H locs ls C hO hS hl)
theorem z_icmp_le {x y : Int32} {off : Int} {tgt : Nat} (hd : decode Y.2.1 pc = .ok (.if_icmp .le off, 3)) (hp : pc0 = pc) (ht : (pc : Int) + off = (tgt : Int)) (kt : x ≤ y → zZ g Y Q tgt lv st h ce sl) (kf : ¬ x ≤ y → zZ g Y Q (pc + 3) lv st h ce sl) : zZ g Y Q pc0 lv (.int y :: .int x :: st) h ce sl := by
  subst hp
  intro p e s m args below meth c H locs ls C hO hS hl
  exact lv_icmp_le C.1 C.2.1 hd ht (fun hc => kt hc p e s m args below meth c H locs ls C hO hS hl) (fun hc => kf hc p e s m args below meth c H locs ls C hO hS hl)
theorem z_goto {off : Int} {tgt : Nat} (hd : decode Y.2.1 pc = .ok (.goto off, 3)) (hp : pc0 = pc) (ht : (pc : Int) + off = (tgt : Int)) (k : zZ g Y Q tgt lv st h ce sl) : zZ g Y Q pc0 lv st h ce sl := by
  subst hp
  intro p e s m args below meth c H locs ls C hO hS hl
  exact lv_goto C.1 C.2.1 hd ht (k p e s m args below meth c H locs ls C hO hS hl)
theorem z_ifnonnull {x : Nat} {off : Int} {tgt : Nat} (hd : decode Y.2.1 pc = .ok (.ifnonnull off, 3)) (hp : pc0 = pc) (ht : (pc : Int) + off = (tgt : Int)) (k : zZ g Y Q tgt lv st h ce sl) : zZ g Y Q pc0 lv (.ref x :: st) h ce sl := by
  subst hp
  intro p e s m args below meth c H locs ls C hO hS hl
  exact lv_ifnonnull C.1 C.2.1 hd ht (k p e s m args below meth c H locs ls C hO hS hl)
theorem z_ifnonnullN {off : Int} (hd : decode Y.2.1 pc = .ok (.ifnonnull off, 3)) (hp : pc0 = pc) (k : zZ g Y Q (pc + 3) lv st h ce sl) : zZ g Y Q pc0 lv (.null :: st) h ce sl := by
  subst hp
  intro p e s m args below meth c H locs ls C hO hS hl
  exact lv_ifnonnullN C.1 C.2.1 hd (k p e s m args below meth c H locs ls C hO hS hl)
theorem z_ifnull {x : Nat} {off : Int} (hd : decode Y.2.1 pc = .ok (.ifnull off, 3)) (hp : pc0 = pc) (k : zZ g Y Q (pc + 3) lv st h ce sl) : zZ g Y Q pc0 lv (.ref x :: st) h ce sl := by
  subst hp
  intro p e s m args below meth c H locs ls C hO hS hl
  exact lv_ifnull C.1 C.2.1 hd (k p e s m args below meth c H locs ls C hO hS hl)
theorem z_ifnullN {off : Int} {tgt : Nat} (hd : decode Y.2.1 pc = .ok (.ifnull off, 3)) (hp : pc0 = pc) (ht : (pc : Int) + off = (tgt : Int)) (k : zZ g Y Q tgt lv st h ce sl) : zZ g Y Q pc0 lv (.null :: st) h ce sl := by
  subst hp
  intro p e s m args below meth c H locs ls C hO hS hl
  exact lv_ifnullN C.1 C.2.1 hd ht (k p e s m args below meth c H locs ls C hO hS hl)
theorem z_acmp_eq {rx ry : Option Nat} {off : Int} {tgt : Nat} (hd : decode Y.2.1 pc = .ok (.if_acmp .eq off, 3)) (hp : pc0 = pc) (ht : (pc : Int) + off = (tgt : Int)) (kt : rx = ry → zZ g Y Q tgt lv st h ce sl) (kf : ¬ rx = ry → zZ g Y Q (pc + 3) lv st h ce sl) : zZ g Y Q pc0 lv (va_rf ry :: va_rf rx :: st) h ce sl := by
  subst hp
  intro p e s m args below meth c H locs ls C hO hS hl
  exact lv_acmp_eq C.1 C.2.1 hd ht (fun hc => kt hc p e s m args below meth c H locs ls C hO hS hl) (fun hc => kf hc p e s m args below meth c H locs ls C hO hS hl)
theorem z_acmp_ne {rx ry : Option Nat} {off : Int} {tgt : Nat} (hd : decode Y.2.1 pc = .ok (.if_acmp .ne off, 3)) (hp : pc0 = pc) (ht : (pc : Int) + off = (tgt : Int)) (kt : ¬ rx = ry → zZ g Y Q tgt lv st h ce sl) (kf : rx = ry → zZ g Y Q (pc + 3) lv st h ce sl) : zZ g Y Q pc0 lv (va_rf ry :: va_rf rx :: st) h ce sl := by
  subst hp
  intro p e s m args below meth c H locs ls C hO hS hl
  exact lv_acmp_ne C.1 C.2.1 hd ht (fun hc => kt hc p e s m args below meth c H locs ls C hO hS hl) (fun hc => kf hc p e s m args below meth c H locs ls C hO hS hl)
theorem z_tableOut {dflt lo hi : Int} {offs : Array Int} {len : Nat} {x : Int32} {tgt : Nat} (hd : decode Y.2.1 pc = .ok (.tableswitch dflt lo hi offs, len)) (hp : pc0 = pc) (hx : x.toInt < lo ∨ hi < x.toInt) (ht : (pc : Int) + dflt = (tgt : Int)) (k : zZ g Y Q tgt lv st h ce sl) : zZ g Y Q pc0 lv (.int x :: st) h ce sl := by
  subst hp
  intro p e s m args below meth c H locs ls C hO hS hl
  exact lv_tableOut C.1 C.2.1 hd hx ht (k p e s m args below meth c H locs ls C hO hS hl)
theorem z_tableIn {dflt lo hi : Int} {offs : Array Int} {len : Nat} {x : Int32} {off : Int} {tgt : Nat} (hd : decode Y.2.1 pc = .ok (.tableswitch dflt lo hi offs, len)) (hp : pc0 = pc) (h1 : ¬ x.toInt < lo) (h2 : ¬ hi < x.toInt) (ho : offs[(x.toInt - lo).toNat]? = some off) (ht : (pc : Int) + off = (tgt : Int)) (k : zZ g Y Q tgt lv st h ce sl) : zZ g Y Q pc0 lv (.int x :: st) h ce sl := by
  subst hp
  intro p e s m args below meth c H locs ls C hO hS hl
  exact lv_tableIn C.1 C.2.1 hd h1 h2 ho ht (k p e s m args below meth c H locs ls C hO hS hl)
theorem zCx.K {p : Program} {s : State} {m : MethodId} {args : Array Value} {meth : Method} {c : Code} (C : zCx g Y p s m args meth c) : zK g s := C.2.2.2.2.2.2.2.1
theorem zCx.own {p : Program} {s : State} {m : MethodId} {args : Array Value} {meth : Method} {c : Code} (C : zCx g Y p s m args meth c) : s.vm.findClass Y.1 = some m.cls := C.2.2.2.2.1
theorem zCx.lo {p : Program} {s : State} {m : MethodId} {args : Array Value} {meth : Method} {c : Code} (C : zCx g Y p s m args meth c) : g.2.2.2 ≤ s.heap.size := C.2.2.2.2.2.2.2.2.1
theorem zCx.locks {p : Program} {s : State} {m : MethodId} {args : Array Value} {meth : Method} {c : Code} (C : zCx g Y p s m args meth c) : meth.locks = false := C.2.2.2.2.2.1
theorem zCx.nm {p : Program} {s : State} {m : MethodId} {args : Array Value} {meth : Method} {c : Code} (C : zCx g Y p s m args meth c) : meth.name = Y.2.2.2.2.2.1 := C.2.2.2.2.2.2.1

theorem z_ldc {index : Nat} {v : Int32} (hd : decode Y.2.1 pc = .ok (.ldc index, 2)) (hp : pc0 = pc) (hw : Cond.constant Y.1 index v ∈ lw_tbl) (k : zZ g Y Q (pc + 2) lv (.int v :: st) h ce sl) : zZ g Y Q pc0 lv st h ce sl := by
  subst hp
  intro p e s m args below meth c H locs ls C hO hS hl
  exact lv_ldc C.1 C.2.1 C.own (C.K.word hw rfl) hd (k p e s m args below meth c H locs ls C hO hS hl)
theorem z_ldcw {index : Nat} {v : Int32} (hd : decode Y.2.1 pc = .ok (.ldc_w index, 3)) (hp : pc0 = pc) (hw : Cond.constant Y.1 index v ∈ lw_tbl) (k : zZ g Y Q (pc + 3) lv (.int v :: st) h ce sl) : zZ g Y Q pc0 lv st h ce sl := by
  subst hp
  intro p e s m args below meth c H locs ls C hO hS hl
  exact lv_ldcw C.1 C.2.1 C.own (C.K.word hw rfl) hd (k p e s m args below meth c H locs ls C hO hS hl)
theorem z_ldcf {index : Nat} {v : UInt32} (hd : decode Y.2.1 pc = .ok (.ldc index, 2)) (hp : pc0 = pc) (hw : Cond.constantFloat Y.1 index v ∈ lw_tbl) (k : zZ g Y Q (pc + 2) lv (.float v :: st) h ce sl) : zZ g Y Q pc0 lv st h ce sl := by
  subst hp
  intro p e s m args below meth c H locs ls C hO hS hl
  exact lv_ldcf C.1 C.2.1 C.own (C.K.word hw rfl) hd (k p e s m args below meth c H locs ls C hO hS hl)
theorem z_ldc2 {index : Nat} {v : Int64} (hd : decode Y.2.1 pc = .ok (.ldc2_w index, 3)) (hp : pc0 = pc) (hw : Cond.constantLong Y.1 index v ∈ lw_tbl) (k : zZ g Y Q (pc + 3) lv (.long v :: st) h ce sl) : zZ g Y Q pc0 lv st h ce sl := by
  subst hp
  intro p e s m args below meth c H locs ls C hO hS hl
  exact lv_ldc2 C.1 C.2.1 C.own (C.K.word hw rfl) hd (k p e s m args below meth c H locs ls C hO hS hl)
theorem z_ldc2d {index : Nat} {v : UInt64} (hd : decode Y.2.1 pc = .ok (.ldc2_w index, 3)) (hp : pc0 = pc) (hw : Cond.constantDouble Y.1 index v ∈ lw_tbl) (k : zZ g Y Q (pc + 3) lv (.double v :: st) h ce sl) : zZ g Y Q pc0 lv st h ce sl := by
  subst hp
  intro p e s m args below meth c H locs ls C hO hS hl
  exact lv_ldc2d C.1 C.2.1 C.own (C.K.word hw rfl) hd (k p e s m args below meth c H locs ls C hO hS hl)
theorem u_good {C0 : String} {T : u_T} {N : Nat} : ∀ w ∈ u_ws C0 T N, goodWord w = true := by
  intro w hw
  obtain ⟨k, -, rfl⟩ := List.mem_map.mp hw
  unfold u_lay
  split <;> rfl
theorem zK.lay {s : State} {args : Array Value} {C0 : String} {T : u_T} {N : Nat} (h : zK g s) (hin : ∀ w ∈ u_ws C0 T N, w ∈ lw_tbl) : ∀ w ∈ u_ws C0 T N, w.before args s = true := fun w hw => h.word (hin w hw) (u_good w hw)
theorem z_get {index a ci N : Nat} {C0 : String} {T : u_T} {fs : List Value} {v : Value} (kf : Nat) (hin : ∀ w ∈ u_ws C0 T N, w ∈ lw_tbl) (hc : vwCl[ci]? = some (C0, T, N)) (hk : kf < N) (hw : Cond.fieldLink Y.1 index (T kf).1 (T kf).2.1 (T kf).2.2.1 ∈ lw_tbl) (hd : decode Y.2.1 pc = .ok (.getfield index, 3)) (hp : pc0 = pc) (ho : h.2 a = some (.inr (ci, fs))) (hv : fs[kf]? = some v) (k : zZ g Y Q (pc + 3) lv (v :: st) h ce sl) : zZ g Y Q pc0 lv (.ref a :: st) h ce sl := by
  subst hp
  intro p e s m args below meth c H locs ls C hO hS hl
  exact va_get C.1 C.2.1 (C.K.lay hin) (fun _ h => h) C.own C.K.2.1 (hO.at ho) 0 rfl hc kf hk (C.K.word hw rfl) (fun _ h => h) hv hd (k p e s m args below meth c H locs ls C hO hS hl)
theorem z_put {index a ci N : Nat} {C0 : String} {T : u_T} {fs : List Value} {v : Value} {ty : FieldType} (kf : Nat) (ty0 : Nat → FieldType) (hin : ∀ w ∈ u_ws C0 T N, w ∈ lw_tbl) (hty : ∀ k, k < N → parseFieldDescriptor (T k).2.2.1 = some (ty0 k)) (hnm : ∀ a, a < N → ∀ b, b < N → a ≠ b → (T a).2.1 ≠ (T b).2.1) (hc : vwCl[ci]? = some (C0, T, N)) (hk : kf < N) (hw : Cond.fieldLink Y.1 index (T kf).1 (T kf).2.1 (T kf).2.2.1 ∈ lw_tbl) (hfin : (T kf).2.2.2 = false) (hdd : parseFieldDescriptor (T kf).2.2.1 = some ty) (hd : decode Y.2.1 pc = .ok (.putfield index, 3)) (hp : pc0 = pc) (ho : h.2 a = some (.inr (ci, fs))) (hn : narrow ty v = v) (hfit : fits ty v = true) (hlen : kf < fs.length)
    (k : zZ g Y Q (pc + 3) lv st (h.1, va_up h.2 a (some (.inr (ci, fs.set kf v)))) ce sl) : zZ g Y Q pc0 lv (v :: .ref a :: st) h ce sl := by
  subst hp
  intro p e s m args below meth c H locs ls C hO hS hl
  have hts := C.K.lay (args := args) hin
  have hap := va_apart (own := Y.1) hts (fun _ h => h) ty0 hty hnm C.K.2.1 hc
  obtain ⟨hlo, r, h1, cell, q1, q2, q3, q4⟩ := hO.2 a _ ho
  have hr : r = (C0, T, N) := Option.some.inj (h1.symm.trans hc)
  subst hr
  obtain ⟨hSl, hfc, kC, hkC, hkind⟩ := C.K.2.1.1 ci _ hc
  obtain ⟨cf, kf', fi, f, hi, hsl⟩ := hSl kf hk
  have hlay := hts _ (u_in_lay hk)
  unfold u_lay at hlay
  rw [if_neg (by rw [hfin]; decide)] at hlay
  have hst := (u_facts hfc hkC (u_lays hts (fun _ h => h) hk) hi).1
  have h6 := u_store hfc hkC hkind hlay hi hdd hn hfit
  refine W.putK C.1 C.2.1 (f := f) ⟨C.own, C.K.word hw rfl, ⟨_, _, _, hi⟩, hst⟩ (by rw [q2]; exact h6) q1 q3 (by rw [hsl]; exact k2_hasslot (q4 kf hk)) rfl rfl hd fun H' e1 e2 e3 => ?_
  rw [hsl] at e1 ⊢
  refine k p e s m args below meth c H' _ ls C (hO.set ho ?_ e2 e3) (hS.put e2 e3 hlo) hl
  exact ⟨_, hc, t_OB.to (V := updV (vp_V fs) kf v) ⟨_, e1, q2, q3, t_set q4 hap hk v⟩ (fun j _ => vp_updV_set hlen v j)⟩
theorem z_putF {index a ci N : Nat} {C0 : String} {T : u_T} {fs : List Value} {v : Value} {ty : FieldType} (kf : Nat) (ty0 : Nat → FieldType) (hin : ∀ w ∈ u_ws C0 T N, w ∈ lw_tbl) (hty : ∀ k, k < N → parseFieldDescriptor (T k).2.2.1 = some (ty0 k)) (hnm : ∀ a, a < N → ∀ b, b < N → a ≠ b → (T a).2.1 ≠ (T b).2.1) (hc : vwCl[ci]? = some (C0, T, N)) (hk : kf < N) (hw : Cond.fieldLink Y.1 index (T kf).1 (T kf).2.1 (T kf).2.2.1 ∈ lw_tbl) (hfin : (T kf).2.2.2 = true) (hdd : parseFieldDescriptor (T kf).2.2.1 = some ty) (hinit : Y.2.2.2.2.2.1 = "<init>") (hdecl : (T kf).1 = Y.1) (hd : decode Y.2.1 pc = .ok (.putfield index, 3)) (hp : pc0 = pc) (ho : h.2 a = some (.inr (ci, fs))) (hn : narrow ty v = v) (hfit : fits ty v = true) (hlen : kf < fs.length)
    (k : zZ g Y Q (pc + 3) lv st (h.1, va_up h.2 a (some (.inr (ci, fs.set kf v)))) ce sl) : zZ g Y Q pc0 lv (v :: .ref a :: st) h ce sl := by
  subst hp
  intro p e s m args below meth c H locs ls C hO hS hl
  have hts := C.K.lay (args := args) hin
  have hap := va_apart (own := Y.1) hts (fun _ h => h) ty0 hty hnm C.K.2.1 hc
  obtain ⟨hlo, r, h1, cell, q1, q2, q3, q4⟩ := hO.2 a _ ho
  have hr : r = (C0, T, N) := Option.some.inj (h1.symm.trans hc)
  subst hr
  obtain ⟨hSl, hfc, kC, hkC, hkind⟩ := C.K.2.1.1 ci _ hc
  obtain ⟨cf, kf', fi, f, hi, hsl⟩ := hSl kf hk
  have hlay := hts _ (u_in_lay hk)
  unfold u_lay at hlay
  rw [if_pos hfin] at hlay
  have hst := (u_facts hfc hkC (u_lays hts (fun _ h => h) hk) hi).1
  have hcf : m.cls = cf := by
    obtain ⟨_, _, c', _, _, _, -, -, hf', -, -, -, hown2, -⟩ := Cond.laysFinal_spec hlay
    have e1 : c' = cf := by have := hi.symm.trans hf'; simp at this; exact this.1.symm
    rw [hdecl] at hown2
    rw [← e1]; exact Option.some.inj (C.own.symm.trans hown2)
  have h6 := u_fits hfc hkC hkind (Or.inr hlay) hi hdd hn hfit
  refine W.putFinK C.1 C.2.1 C.own (C.K.word hw rfl) hi hst hcf (C.nm.trans hinit) (by rw [q2]; exact h6) q1 q3 (by rw [hsl]; exact k2_hasslot (q4 kf hk)) rfl rfl hd fun H' e1 e2 e3 => ?_
  rw [hsl] at e1 ⊢
  refine k p e s m args below meth c H' _ ls C (hO.set ho ?_ e2 e3) (hS.put e2 e3 hlo) hl
  exact ⟨_, hc, t_OB.to (V := updV (vp_V fs) kf v) ⟨_, e1, q2, q3, t_set q4 hap hk v⟩ (fun j _ => vp_updV_set hlen v j)⟩

theorem z_iald {a n : Nat} {f : Nat → Int32} {i : Int32} (hd : decode Y.2.1 pc = .ok (.iaload, 1)) (hp : pc0 = pc) (ho : h.2 a = some (.inl (0, n, .inl f))) (hi : vp_in i n) (k : zZ g Y Q (pc + 1) lv (.int (f i.toNatClampNeg) :: st) h ce sl) : zZ g Y Q pc0 lv (.int i :: .ref a :: st) h ce sl := by
  subst hp
  intro p e s m args below meth c H locs ls C hO hS hl
  exact va_iald C.1 C.2.1 C.K.2.1 (hO.at ho) 0 0 rfl rfl hi hd (k p e s m args below meth c H locs ls C hO hS hl)
theorem z_iast {a n : Nat} {f : Nat → Int32} {i : Int32} {x : Int32} (hd : decode Y.2.1 pc = .ok (.iastore, 1)) (hp : pc0 = pc) (ho : h.2 a = some (.inl (0, n, .inl f))) (hi : vp_in i n) (k : zZ g Y Q (pc + 1) lv st (h.1, va_up h.2 a (some (.inl (0, n, .inl (upd f i.toNatClampNeg x))))) ce sl) : zZ g Y Q pc0 lv (.int x :: .int i :: .ref a :: st) h ce sl := by
  subst hp
  intro p e s m args below meth c H locs ls C hO hS hl
  have hlo := (hO.2 a _ ho).1
  refine W.iast C.1 C.2.1 (hO.at ho 0 _ rfl) ((C.K.2.1.2 0 _ rfl).1 n (fun j => .int (f j))) (fun q => by cases q) (by show ¬ (i < 0 ∨ (arrV _ _ _).slots.size ≤ _); rw [arrV_size]; exact hi) rfl rfl hd fun H1 e1 z oq => ?_
  refine k p e s m args below meth c H1 _ ls C (hO.set ho ?_ z oq) (hS.put z oq hlo) hl
  show H1[a]? = some (vp_cell _ _)
  rw [e1]
  show some ((vp_cell _ _).setSlot _ _) = _
  rw [vp_cell_i, vp_cell_i, arrV_store]
  congr 2
  funext q
  by_cases hq : q = i.toNatClampNeg
  · subst hq
    simp [updV, upd, vp_nar]
    try rfl
  · simp [updV, upd, hq]
theorem z_lald {a n : Nat} {f : Nat → Int64} {i : Int32} (hd : decode Y.2.1 pc = .ok (.laload, 1)) (hp : pc0 = pc) (ho : h.2 a = some (.inl (1, n, .inr (.inl f)))) (hi : vp_in i n) (k : zZ g Y Q (pc + 1) lv (.long (f i.toNatClampNeg) :: st) h ce sl) : zZ g Y Q pc0 lv (.int i :: .ref a :: st) h ce sl := by
  subst hp
  intro p e s m args below meth c H locs ls C hO hS hl
  exact va_lald C.1 C.2.1 C.K.2.1 (hO.at ho) 0 1 rfl rfl hi hd (k p e s m args below meth c H locs ls C hO hS hl)
theorem z_last {a n : Nat} {f : Nat → Int64} {i : Int32} {x : Int64} (hd : decode Y.2.1 pc = .ok (.lastore, 1)) (hp : pc0 = pc) (ho : h.2 a = some (.inl (1, n, .inr (.inl f)))) (hi : vp_in i n) (k : zZ g Y Q (pc + 1) lv st (h.1, va_up h.2 a (some (.inl (1, n, .inr (.inl (vp_updL f i.toNatClampNeg x)))))) ce sl) : zZ g Y Q pc0 lv (.long x :: .int i :: .ref a :: st) h ce sl := by
  subst hp
  intro p e s m args below meth c H locs ls C hO hS hl
  have hlo := (hO.2 a _ ho).1
  refine W.last C.1 C.2.1 (hO.at ho 0 _ rfl) ((C.K.2.1.2 1 _ rfl).1 n (fun j => .long (f j))) (fun q => by cases q) (by show ¬ (i < 0 ∨ (arrV _ _ _).slots.size ≤ _); rw [arrV_size]; exact hi) rfl rfl hd fun H1 e1 z oq => ?_
  refine k p e s m args below meth c H1 _ ls C (hO.set ho ?_ z oq) (hS.put z oq hlo) hl
  show H1[a]? = some (vp_cell _ _)
  rw [e1]
  show some ((vp_cell _ _).setSlot _ _) = _
  rw [vp_cell_l, vp_cell_l, arrV_store]
  congr 2
  funext q
  by_cases hq : q = i.toNatClampNeg
  · subst hq
    simp [updV, vp_updL, vp_nar]
    try rfl
  · simp [updV, vp_updL, hq]
theorem z_dald {a n : Nat} {f : Nat → UInt64} {i : Int32} (hd : decode Y.2.1 pc = .ok (.daload, 1)) (hp : pc0 = pc) (ho : h.2 a = some (.inl (2, n, .inr (.inr (.inr (.inl f)))))) (hi : vp_in i n) (k : zZ g Y Q (pc + 1) lv (.double (f i.toNatClampNeg) :: st) h ce sl) : zZ g Y Q pc0 lv (.int i :: .ref a :: st) h ce sl := by
  subst hp
  intro p e s m args below meth c H locs ls C hO hS hl
  exact va_dald C.1 C.2.1 C.K.2.1 (hO.at ho) 0 2 rfl rfl hi hd (k p e s m args below meth c H locs ls C hO hS hl)
theorem z_dast {a n : Nat} {f : Nat → UInt64} {i : Int32} {x : UInt64} (hd : decode Y.2.1 pc = .ok (.dastore, 1)) (hp : pc0 = pc) (ho : h.2 a = some (.inl (2, n, .inr (.inr (.inr (.inl f)))))) (hi : vp_in i n) (k : zZ g Y Q (pc + 1) lv st (h.1, va_up h.2 a (some (.inl (2, n, .inr (.inr (.inr (.inl (vf_upd f i.toNatClampNeg x)))))))) ce sl) : zZ g Y Q pc0 lv (.double x :: .int i :: .ref a :: st) h ce sl := by
  subst hp
  intro p e s m args below meth c H locs ls C hO hS hl
  have hlo := (hO.2 a _ ho).1
  refine W.dast C.1 C.2.1 (hO.at ho 0 _ rfl) ((C.K.2.1.2 2 _ rfl).1 n (fun j => .double (f j))) (fun q => by cases q) (by show ¬ (i < 0 ∨ (arrV _ _ _).slots.size ≤ _); rw [arrV_size]; exact hi) rfl rfl hd fun H1 e1 z oq => ?_
  refine k p e s m args below meth c H1 _ ls C (hO.set ho ?_ z oq) (hS.put z oq hlo) hl
  show H1[a]? = some (vp_cell _ _)
  rw [e1]
  show some ((vp_cell _ _).setSlot _ _) = _
  rw [vp_cell_d, vp_cell_d, arrV_store]
  congr 2
  funext q
  by_cases hq : q = i.toNatClampNeg
  · subst hq
    simp [updV, vf_upd, vp_nar]
    try rfl
  · simp [updV, vf_upd, hq]
theorem z_zald {a n : Nat} {f : Nat → Int32} {i : Int32} (hd : decode Y.2.1 pc = .ok (.baload, 1)) (hp : pc0 = pc) (ho : h.2 a = some (.inl (3, n, .inl f))) (hi : vp_in i n) (k : zZ g Y Q (pc + 1) lv (.int (f i.toNatClampNeg) :: st) h ce sl) : zZ g Y Q pc0 lv (.int i :: .ref a :: st) h ce sl := by
  subst hp
  intro p e s m args below meth c H locs ls C hO hS hl
  exact va_zald C.1 C.2.1 C.K.2.1 (hO.at ho) 0 3 rfl rfl hi hd (k p e s m args below meth c H locs ls C hO hS hl)
theorem z_zast {a n : Nat} {f : Nat → Int32} {i : Int32} {x : Int32} (hd : decode Y.2.1 pc = .ok (.bastore, 1)) (hp : pc0 = pc) (ho : h.2 a = some (.inl (3, n, .inl f))) (hi : vp_in i n) (k : zZ g Y Q (pc + 1) lv st (h.1, va_up h.2 a (some (.inl (3, n, .inl (upd f i.toNatClampNeg (vp_nar .boolean x)))))) ce sl) : zZ g Y Q pc0 lv (.int x :: .int i :: .ref a :: st) h ce sl := by
  subst hp
  intro p e s m args below meth c H locs ls C hO hS hl
  have hlo := (hO.2 a _ ho).1
  refine W.zast C.1 C.2.1 (hO.at ho 0 _ rfl) ((C.K.2.1.2 3 _ rfl).1 n (fun j => .int (f j))) (fun q => by cases q) (by show ¬ (i < 0 ∨ (arrV _ _ _).slots.size ≤ _); rw [arrV_size]; exact hi) rfl rfl hd fun H1 e1 z oq => ?_
  refine k p e s m args below meth c H1 _ ls C (hO.set ho ?_ z oq) (hS.put z oq hlo) hl
  show H1[a]? = some (vp_cell _ _)
  rw [e1]
  show some ((vp_cell _ _).setSlot _ _) = _
  rw [vp_cell_i, vp_cell_i, arrV_store]
  congr 2
  funext q
  by_cases hq : q = i.toNatClampNeg
  · subst hq
    simp [updV, upd, vp_nar]
    try rfl
  · simp [updV, upd, hq]
theorem z_aald {a n t : Nat} {f : Nat → Option Nat} {i : Int32} {ty : FieldType} (hd : decode Y.2.1 pc = .ok (.aaload, 1)) (hp : pc0 = pc) (ho : h.2 a = some (.inl (t, n, .inr (.inr (.inr (.inr f)))))) (ht : (zTys g)[t]? = some (g.2.2.1 t, ty)) (hrt : ty.isReference = true) (hi : vp_in i n) (k : zZ g Y Q (pc + 1) lv (va_rf (f i.toNatClampNeg) :: st) h ce sl) : zZ g Y Q pc0 lv (.int i :: .ref a :: st) h ce sl := by
  subst hp
  intro p e s m args below meth c H locs ls C hO hS hl
  have hlt : i.toNatClampNeg < n := Nat.not_le.mp fun q => hi (Or.inr q)
  exact W.aald (v := va_rf (f i.toNatClampNeg)) (ty := ty) C.1 C.2.1 (hO.at ho 0 _ rfl) ((C.K.2.1.2 t _ ht).1 n (fun j => va_rf (f j))) hrt (fun q => by cases q) (by show ¬ (i < 0 ∨ (arrV _ _ _).slots.size ≤ _); rw [arrV_size]; exact hi) (by show (arrV _ _ _).slots[_]? = _; rw [arrV_read _ _ hlt]) rfl rfl hd (k p e s m args below meth c H locs ls C hO hS hl)
/-- an element that is null, or an address -/
theorem z_aaldc {a n t : Nat} {f : Nat → Option Nat} {i : Int32} {ty : FieldType} (hd : decode Y.2.1 pc = .ok (.aaload, 1)) (hp : pc0 = pc) (ho : h.2 a = some (.inl (t, n, .inr (.inr (.inr (.inr f)))))) (ht : (zTys g)[t]? = some (g.2.2.1 t, ty)) (hrt : ty.isReference = true) (hi : vp_in i n) (kn : f i.toNatClampNeg = none → zZ g Y Q (pc + 1) lv (.null :: st) h ce sl) (ks : ∀ b, f i.toNatClampNeg = some b → zZ g Y Q (pc + 1) lv (.ref b :: st) h ce sl) : zZ g Y Q pc0 lv (.int i :: .ref a :: st) h ce sl := by
  refine z_aald hd hp ho ht hrt hi ?_
  cases hf : f i.toNatClampNeg with
  | none => exact kn hf
  | some b => exact ks b hf
theorem z_aalds {a n t b : Nat} {f : Nat → Option Nat} {i : Int32} {ty : FieldType} (hd : decode Y.2.1 pc = .ok (.aaload, 1)) (hp : pc0 = pc) (ho : h.2 a = some (.inl (t, n, .inr (.inr (.inr (.inr f)))))) (ht : (zTys g)[t]? = some (g.2.2.1 t, ty)) (hrt : ty.isReference = true) (hi : vp_in i n) (hf : f i.toNatClampNeg = some b) (ks : zZ g Y Q (pc + 1) lv (.ref b :: st) h ce sl) : zZ g Y Q pc0 lv (.int i :: .ref a :: st) h ce sl := by
  refine z_aald hd hp ho ht hrt hi ?_
  rw [hf]
  exact ks
theorem z_aast {a n t v ci : Nat} {r : vw_C} {vs : List Value} {f : Nat → Option Nat} {i : Int32} (hd : decode Y.2.1 pc = .ok (.aastore, 1)) (hp : pc0 = pc) (ho : h.2 a = some (.inl (t, n, .inr (.inr (.inr (.inr f)))))) (ht : (zTys g)[t]? = some (g.2.2.1 t, .object r.1)) (hv : h.2 v = some (.inr (ci, vs))) (hc : vwCl[ci]? = some r) (hi : vp_in i n) (k : zZ g Y Q (pc + 1) lv st (h.1, va_up h.2 a (some (.inl (t, n, .inr (.inr (.inr (.inr (va_up f i.toNatClampNeg (some v))))))))) ce sl) : zZ g Y Q pc0 lv (.ref v :: .int i :: .ref a :: st) h ce sl := by
  subst hp
  intro p e s m args below meth c H locs ls C hO hS hl
  have hlo := (hO.2 a _ ho).1
  have hlt : i.toNatClampNeg < n := Nat.not_le.mp fun q => hi (Or.inr q)
  have h0 : ¬ i < 0 := fun q => hi (Or.inl q)
  obtain ⟨r', hr', cellV, g1, g2, g3, -⟩ := (hO.2 v _ hv).2
  have hcls := (C.K.2.1.1 ci r hc).2
  obtain ⟨kA, comp, k1, k2, k3, -⟩ := (C.K.2.1.2 t _ ht).2
  have hcomp : comp = g.2.1.1 ci := Option.some.inj (k3.symm.trans hcls.1)
  subst hcomp
  obtain ⟨kC, hkC, -⟩ := hcls.2
  refine W.aast C.1 C.2.1 (hO.at ho 0 _ rfl) (fun q h => by cases h) (fun h => by cases h) k1 k2 rfl hkC ⟨h0, by show _ < (arrV _ _ _).slots.size; rw [arrV_size]; exact hlt⟩ g1 (fun q h => by rw [g3] at h; cases h) (by rw [g2]; exact hkC) (by rw [g2]; exact va_assign hcls) rfl rfl hd fun H1 e1 z oq => ?_
  refine k p e s m args below meth c H1 _ ls C (hO.set ho ?_ z oq) (hS.put z oq hlo) hl
  show H1[a]? = some (vp_cell _ _)
  rw [e1]
  show some ((vp_cell _ _).setSlot _ _) = _
  rw [vp_cell_q, vp_cell_q, arrV_store]
  congr 2
  funext q
  by_cases hq : q = i.toNatClampNeg
  · subst hq
    simp [updV, va_up, va_rf]
  · simp [updV, va_up, hq]
theorem z_aastN {a n t : Nat} {C0 : String} {f : Nat → Option Nat} {i : Int32} (hd : decode Y.2.1 pc = .ok (.aastore, 1)) (hp : pc0 = pc) (ho : h.2 a = some (.inl (t, n, .inr (.inr (.inr (.inr f)))))) (ht : (zTys g)[t]? = some (g.2.2.1 t, .object C0)) (hi : vp_in i n) (k : zZ g Y Q (pc + 1) lv st (h.1, va_up h.2 a (some (.inl (t, n, .inr (.inr (.inr (.inr (va_up f i.toNatClampNeg none)))))))) ce sl) : zZ g Y Q pc0 lv (.null :: .int i :: .ref a :: st) h ce sl := by
  subst hp
  intro p e s m args below meth c H locs ls C hO hS hl
  have hlo := (hO.2 a _ ho).1
  refine va_WaastN (C := C0) C.1 C.2.1 (hO.at ho 0 _ rfl) ((C.K.2.1.2 t _ ht).1 n (fun j => va_rf (f j))) (fun h => by cases h) (by show ¬ (i < 0 ∨ (arrV _ _ _).slots.size ≤ _); rw [arrV_size]; exact hi) rfl rfl hd fun H1 e1 z oq => ?_
  refine k p e s m args below meth c H1 _ ls C (hO.set ho ?_ z oq) (hS.put z oq hlo) hl
  show H1[a]? = some (vp_cell _ _)
  rw [e1]
  show some ((vp_cell _ _).setSlot _ _) = _
  rw [vp_cell_q, vp_cell_q, arrV_store]
  congr 2
  funext q
  by_cases hq : q = i.toNatClampNeg
  · subst hq
    simp [updV, va_up, va_rf]
  · simp [updV, va_up, hq]
theorem z_new {index ci N : Nat} {C0 : String} {T : u_T} {fs : List Value} (ty : Nat → FieldType) (hin : ∀ w ∈ u_ws C0 T N, w ∈ lw_tbl) (hty : ∀ k, k < N → parseFieldDescriptor (T k).2.2.1 = some (ty k)) (hc : vwCl[ci]? = some (C0, T, N)) (w1 : Cond.classLink Y.1 index C0 ∈ lw_tbl) (w2 : Cond.instantiable C0 N ∈ lw_tbl) (w3 : Cond.initialized C0 ∈ lw_tbl) (hfs : ∀ j, j < N → defaultValue (ty j) = vp_V fs j) (hd : decode Y.2.1 pc = .ok (.new index, 3)) (hp : pc0 = pc) (hcells : ce + 1 ≤ Y.2.2.2.2.1.cells) (hslots : sl + N ≤ Y.2.2.2.2.1.slots) (k : zZ g Y Q (pc + 3) lv (.ref h.1 :: st) (h.1 + 1, va_up h.2 h.1 (some (.inr (ci, fs)))) (ce + 1) (sl + N)) : zZ g Y Q pc0 lv st h ce sl := by
  subst hp
  intro p e s m args below meth c H locs ls C hO hS hl
  have hKn := C.K.2.1.1 ci _ hc
  refine W.newcK C.1 C.2.1 C.own (C.K.word w1 rfl) (C.K.word w2 rfl) (C.K.word w3 rfl) rfl hd hcells hslots hKn.2.1 hO.1 fun H1 kC hkC e1 z1 o1 => ?_
  refine k p e s m args below meth c H1 locs ls C (hO.push (Nat.le_trans C.lo hS.1) ?_ z1 o1) (zS.push hS hO.1 z1 o1) hl
  exact ⟨_, hc, (u_born ty (C.K.lay (args := args) hin) (fun _ h => h) hKn hkC e1 hty).to hfs⟩
theorem z_newa {atype : ArrayType} {t : Nat} {ty : FieldType} {a0 : vp_A} {n : Int32} {N : Nat} (hty : newarray.typeOf atype = ty) (ht : (zTys g)[t]? = some (g.2.2.1 t, ty)) (hra : ∀ U cA, va_RA U cA ty → U.vm.findClass ("[" ++ ty.toString) = some cA) (w : Cond.arrayClass ty ∈ lw_tbl) (ha : ∀ cA : ClassId, vp_cell cA a0 = arrV cA N (fun _ => defaultValue ty)) (hd : decode Y.2.1 pc = .ok (.newarray atype, 2)) (hp : pc0 = pc) (hn : ¬ n < 0) (hN : n.toNatClampNeg = N) (hbytes : N * componentBytes ty ≤ 536870912) (hcells : ce + 1 ≤ Y.2.2.2.2.1.cells) (hslots : sl + N ≤ Y.2.2.2.2.1.slots) (k : zZ g Y Q (pc + 2) lv (.ref h.1 :: st) (h.1 + 1, va_up h.2 h.1 (some (.inl (t, a0)))) (ce + 1) (sl + N)) : zZ g Y Q pc0 lv (.int n :: st) h ce sl := by
  subst hp
  subst hty
  intro p e s m args below meth c H locs ls C hO hS hl
  refine va_newaK C.1 C.2.1 (C.K.word w rfl) rfl hd rfl hn hN hbytes hcells hslots hO.1 fun H1 cA e1 z1 o1 hAr hNm => ?_
  have hcA : cA = g.2.2.1 t := Option.some.inj (hNm.symm.trans (hra _ _ (C.K.2.1.2 t _ ht).2))
  subst hcA
  refine k p e s m args below meth c H1 locs ls C (hO.push (Nat.le_trans C.lo hS.1) ?_ z1 o1) (zS.push hS hO.1 z1 o1) hl
  show H1[h.1]? = some (vp_cell _ _)
  rw [ha]
  exact e1
theorem z_anew {index t : Nat} {C0 : String} {n : Int32} {N : Nat} (ht : (zTys g)[t]? = some (g.2.2.1 t, .object C0)) (w1 : Cond.classLink Y.1 index C0 ∈ lw_tbl) (hao : ∀ U, zK g U → va_AO C0 U) (hd : decode Y.2.1 pc = .ok (.anewarray index, 3)) (hp : pc0 = pc) (hn : ¬ n < 0) (hN : n.toNatClampNeg = N) (hbytes : N * 4 ≤ 536870912) (hcells : ce + 1 ≤ Y.2.2.2.2.1.cells) (hslots : sl + N ≤ Y.2.2.2.2.1.slots) (k : zZ g Y Q (pc + 3) lv (.ref h.1 :: st) (h.1 + 1, va_up h.2 h.1 (some (.inl (t, N, .inr (.inr (.inr (.inr (fun _ => none)))))))) (ce + 1) (sl + N)) : zZ g Y Q pc0 lv (.int n :: st) h ce sl := by
  subst hp
  subst hN
  intro p e s m args below meth c H locs ls C hO hS hl
  refine W.anew C.1 C.2.1 C.own (C.K.word w1 rfl) (va_AO.use (hao s C.K)) rfl hd rfl hn hbytes hcells hslots fun cA kA comp f1 f2 f3 f4 => ?_
  generalize hH1 : H.push ({ cls := cA, slots := Array.replicate n.toNatClampNeg .null, vm := .none } : Cell) = H1
  have z1 : H1.size = H.size + 1 := by rw [← hH1, Array.size_push]
  have e1 : H1[H.size]? = some (arrV cA n.toNatClampNeg (fun _ => .null)) := by rw [← hH1, Array.getElem?_push_size, ← arrV_new]
  have o1 : ∀ q : Nat, q < H.size → H1[q]? = H[q]? := fun q hq => by rw [← hH1, Array.getElem?_push, if_neg (Nat.ne_of_lt hq)]
  rw [hO.1] at z1 e1 o1 ⊢
  obtain ⟨kA', comp', k1, k2, k3, k4⟩ := (C.K.2.1.2 t _ ht).2
  have hcA : cA = g.2.2.1 t := Option.some.inj (f1.symm.trans k4)
  subst hcA
  refine k p e s m args below meth c H1 locs ls C (hO.push (Nat.le_trans C.lo hS.1) ?_ z1 o1) (zS.push hS hO.1 z1 o1) hl
  exact e1
/-- behind a call -/
theorem z_run {p : Program} {e : Env} {R : Room} {s : State} {m : MethodId} {args : Array Value} {below : List Frame} {meth : Method} {c : Code} {H : Heap} {locs : List Loc} {cells slots mc ms pc : Nat} {ls : Array Slot} {st0 rest : List Value} {Q : State → Prop} {post : Option Value → zH → Prop} {a : Array Value}
    (hr : va_Run p g.1 e R s m args below meth c H locs cells slots mc ms (F0 m pc ls st0) rest (zQ g post a) (fun q => g.2.2.2 ≤ q)) (hS : va_S (fun q => g.2.2.2 ≤ q) s.heap H locs)
    (kk : ∀ (v : Option Value) (h1 : zH) (H1 : Heap) (locs1 : List Loc), post v h1 → zOk g h1 H1 → va_S (fun q => g.2.2.2 ≤ q) s.heap H1 locs1 → W p g.1 e R s m args below meth c H1 locs1 (cells + mc) (slots + ms) Q (F0 m (pc + 3) ls (v.toList ++ rest))) : W p g.1 e R s m args below meth c H locs cells slots Q (F0 m pc ls st0) := by
  intro T hT X
  obtain ⟨v, st₀, t, T', L, h0, X', hL, e1, e2, ⟨w, h1, hv, hp, hO1, hz, hk⟩, stp⟩ := hr T hT X
  cases hv
  rw [h0] at hz hk
  obtain ⟨t2, a1, b1⟩ := kk v h1 T'.heap (locs ++ L) hp (by rw [e1]; exact hO1)
    ⟨Nat.le_trans hS.1 (by rw [e1]; exact hz), fun q h1 h2 => by rw [e1, hk q (Nat.lt_of_lt_of_le h1 hS.1) h2]; exact hS.2.1 q h1 h2, fun q hq => by
      rcases List.mem_append.mp hq with h | h
      · exact hS.2.2 q h
      · exact hL q h⟩ T' rfl X'
  exact ⟨t2, stp t2 a1, b1⟩
theorem z_blind {av : List Value} {h : zH} : FrameBlind (va_Pc av (fun U => zOk g h U.heap ∧ zK g U ∧ g.2.2.2 ≤ U.heap.size)) :=
  fun a U f mk q => ⟨q.1, q.2.1, zK.warm (s := U) (U := U.calling f mk a) (State.WarmedH.refl U) q.2.2.1, q.2.2.2⟩
theorem z_good {y : MethodName} {cc : ByteArray} {maxL : Nat} {ret : Option FieldType} {s : State} {args : Array Value} (hK : zK g s) (w4 : Cond.code y cc maxL ret ∈ lw_tbl) : ∀ w ∈ [Cond.code y cc maxL ret], ∀ (a' : Array Value) (U : State), s.WarmedH U.vm → w.before a' U = true := by
  intro w hw a' U hW
  cases List.mem_singleton.mp hw
  exact (zK.warm hW hK).word w4 rfl
theorem z_cb {y : MethodName} {cc : ByteArray} {maxL : Nat} {ret : Option FieldType} {rm R : Room} {n index : Nat} {s : State} {args : Array Value} {own : String} (hK : zK g s) (w1 : Cond.methodLink own index y ∈ lw_tbl) (w3 : Cond.initialized y.cls ∈ lw_tbl) (w4 : Cond.code y cc maxL ret ∈ lw_tbl) (hdn : y.cls ≠ "java/lang/invoke/MethodHandle" ∧ y.cls ≠ "java/lang/invoke/VarHandle" ∧ (parseMethodDescriptor y.desc).map (fun d => d.parameters.length) = some n) (hR : rm.frames + 1 ≤ R.frames ∧ 8 + (maxL + 11) + rm.locals ≤ R.locals) : CallB R s args own index y cc maxL ret [.code y cc maxL ret] rm rm.cells rm.slots n :=
  ⟨rfl, rfl, hR.1, hR.2, z_good (args := args) hK w4, List.mem_singleton.mpr rfl, hK.word w4 rfl, hK.word w3 rfl, ⟨hdn.1, hdn.2.1⟩, fun sig hs => by have h2 := hdn.2.2; rw [hs] at h2; exact (Option.some.inj h2).symm, hK.word w1 rfl⟩
theorem z_callS {y : MethodName} {cc : ByteArray} {maxL : Nat} {ret : Option FieldType} {rm : Room} {av rest st0 : List Value} {post : Option Value → zH → Prop} {index : Nat} (w1 : Cond.methodLink Y.1 index y ∈ lw_tbl) (w2 : Cond.static y ∈ lw_tbl) (w3 : Cond.initialized y.cls ∈ lw_tbl) (w4 : Cond.code y cc maxL ret ∈ lw_tbl) (n : Nat) (hdn : y.cls ≠ "java/lang/invoke/MethodHandle" ∧ y.cls ≠ "java/lang/invoke/VarHandle" ∧ (parseMethodDescriptor y.desc).map (fun d => d.parameters.length) = some n) (hd : decode Y.2.1 pc = .ok (.invokestatic index, 3)) (hp : pc0 = pc) (hM : zM g y cc maxL ret rm av h post) (hs : st0 = av.reverse ++ rest) (hn : av.length = n) (hR : rm.frames + 1 ≤ Y.2.2.2.2.1.frames ∧ 8 + (maxL + 11) + rm.locals ≤ Y.2.2.2.2.1.locals) (hf : ce + rm.cells ≤ Y.2.2.2.2.1.cells ∧ sl + rm.slots ≤ Y.2.2.2.2.1.slots) (hw : (rest.map fun v => v.category).sum ≤ 8)
    (k : ∀ v h1, post v h1 → zZ g Y Q (pc + 3) lv (v.toList ++ rest) h1 (ce + rm.cells) (sl + rm.slots)) : zZ g Y Q pc0 lv st0 h ce sl := by
  subst hp
  intro p e s m args below meth c H locs ls C hO hS hl
  have hlo : g.2.2.2 ≤ H.size := Nat.le_trans C.lo hS.1
  exact z_run (va_runS (Ts := []) (nL := Y.2.2.1) (own := Y.1) ⟨C.1, C.2.1, C.2.2.1, C.own, fun w hw => by cases hw⟩ hM ⟨z_cb C.K w1 w3 w4 hdn hR, C.K.word w2 rfl⟩ ⟨z_blind, fun U hU hW => ⟨rfl, by rw [hU]; exact hO, zK.warm hW C.K, by rw [hU]; exact hlo⟩⟩ rfl hn hl.1 hs (lv_room hw) hd hf) hS (fun v h1 H1 locs1 hp hO1 hS1 => k v h1 hp p e s m args below meth c H1 locs1 ls C hO1 hS1 hl)
theorem z_recv {s : State} {H : Heap} {a ci : Nat} {q : vw_C} {fs : List Value} (hK : zK g s) (hO : zOk g h H) (hc : vwCl[ci]? = some q) (ho : h.2 a = some (.inr (ci, fs))) : ∃ cell : Cell, H[a]? = some cell ∧ cell.vm.isStatics = false ∧ s.vm.findClass q.1 = some cell.cls := va_recv hK.2.1 (hO.at ho) hc (q0 := 0) rfl
theorem z_callV {y : MethodName} {cc : ByteArray} {maxL : Nat} {ret : Option FieldType} {rm : Room} {As rest st0 : List Value} {b ci : Nat} {q : vw_C} {fs : List Value} {post : Option Value → zH → Prop} {index : Nat} (w1 : Cond.methodLink Y.1 index y ∈ lw_tbl) (w2 : Cond.instanceMethod y ∈ lw_tbl) (w3 : Cond.initialized y.cls ∈ lw_tbl) (w4 : Cond.code y cc maxL ret ∈ lw_tbl) (w5 : Cond.selects y.cls y y ∈ lw_tbl) (n : Nat) (hdn : y.cls ≠ "java/lang/invoke/MethodHandle" ∧ y.cls ≠ "java/lang/invoke/VarHandle" ∧ (parseMethodDescriptor y.desc).map (fun d => d.parameters.length) = some n) (hc : vwCl[ci]? = some q) (hq : q.1 = y.cls) (hd : decode Y.2.1 pc = .ok (.invokevirtual index, 3)) (hp : pc0 = pc) (ho : h.2 b = some (.inr (ci, fs))) (hM : zM g y cc maxL ret rm (.ref b :: As) h post) (hs : st0 = As.reverse ++ .ref b :: rest) (hn : As.length = n) (hR : rm.frames + 1 ≤ Y.2.2.2.2.1.frames ∧ 8 + (maxL + 11) + rm.locals ≤ Y.2.2.2.2.1.locals) (hf : ce + rm.cells ≤ Y.2.2.2.2.1.cells ∧ sl + rm.slots ≤ Y.2.2.2.2.1.slots) (hw : (rest.map fun v => v.category).sum ≤ 8)
    (k : ∀ v h1, post v h1 → zZ g Y Q (pc + 3) lv (v.toList ++ rest) h1 (ce + rm.cells) (sl + rm.slots)) : zZ g Y Q pc0 lv st0 h ce sl := by
  subst hp
  intro p e s m args below meth c H locs ls C hO hS hl
  have hlo : g.2.2.2 ≤ H.size := Nat.le_trans C.lo hS.1
  exact z_run (va_runV (C := y.cls) (Ts := []) (nL := Y.2.2.1) (own := Y.1) ⟨C.1, C.2.1, C.2.2.1, C.own, fun w hw => by cases hw⟩ hM ⟨z_cb C.K w1 w3 w4 hdn hR, C.K.word w2 rfl, C.K.word w5 rfl⟩ ⟨z_blind, by rw [← hq]; exact z_recv C.K hO hc ho, fun U hU hW => ⟨rfl, by rw [hU]; exact hO, zK.warm hW C.K, by rw [hU]; exact hlo⟩⟩ rfl hn hl.1 hs (lv_room hw) hd hf) hS (fun v h1 H1 locs1 hp hO1 hS1 => k v h1 hp p e s m args below meth c H1 locs1 ls C hO1 hS1 hl)
theorem z_callI {y : MethodName} {cc : ByteArray} {maxL : Nat} {rm : Room} {As rest st0 : List Value} {b : Nat} {post : Option Value → zH → Prop} {index : Nat} (w1 : Cond.methodLink Y.1 index y ∈ lw_tbl) (w2 : Cond.instanceMethod y ∈ lw_tbl) (w3 : Cond.initialized y.cls ∈ lw_tbl) (w4 : Cond.code y cc maxL none ∈ lw_tbl) (n : Nat) (hdn : y.cls ≠ "java/lang/invoke/MethodHandle" ∧ y.cls ≠ "java/lang/invoke/VarHandle" ∧ (parseMethodDescriptor y.desc).map (fun d => d.parameters.length) = some n) (hyn : y.name = "<init>") (hd : decode Y.2.1 pc = .ok (.invokespecial index, 3)) (hp : pc0 = pc) (hM : zM g y cc maxL none rm (.ref b :: As) h post) (hs : st0 = As.reverse ++ .ref b :: rest) (hn : As.length = n) (hR : rm.frames + 1 ≤ Y.2.2.2.2.1.frames ∧ 8 + (maxL + 11) + rm.locals ≤ Y.2.2.2.2.1.locals) (hf : ce + rm.cells ≤ Y.2.2.2.2.1.cells ∧ sl + rm.slots ≤ Y.2.2.2.2.1.slots) (hw : (rest.map fun v => v.category).sum ≤ 8)
    (k : ∀ v h1, post v h1 → zZ g Y Q (pc + 3) lv (v.toList ++ rest) h1 (ce + rm.cells) (sl + rm.slots)) : zZ g Y Q pc0 lv st0 h ce sl := by
  subst hp
  intro p e s m args below meth c H locs ls C hO hS hl
  have hlo : g.2.2.2 ≤ H.size := Nat.le_trans C.lo hS.1
  exact z_run (va_runI (Ts := []) (nL := Y.2.2.1) (own := Y.1) ⟨C.1, C.2.1, C.2.2.1, C.own, fun w hw => by cases hw⟩ hM ⟨z_cb C.K w1 w3 w4 hdn hR, hyn, C.K.word w2 rfl⟩ ⟨z_blind, fun U hU hW => ⟨rfl, by rw [hU]; exact hO, zK.warm hW C.K, by rw [hU]; exact hlo⟩⟩ rfl hn hl.1 hs (lv_room hw) hd hf) hS (fun v h1 H1 locs1 hp hO1 hS1 => k v h1 hp p e s m args below meth c H1 locs1 ls C hO1 hS1 hl)
theorem z_objInit {index a : Nat} (w1 : Cond.methodLink Y.1 index Lib.objectInit ∈ lw_tbl) (w2 : Cond.instanceMethod Lib.objectInit ∈ lw_tbl) (w3 : Cond.code Lib.objectInit ⟨#[0xb1]⟩ 1 none ∈ lw_tbl) (hd : decode Y.2.1 pc = .ok (.invokespecial index, 3)) (hp : pc0 = pc) (hf : 1 ≤ Y.2.2.2.2.1.frames) (hlc : (st.map fun v => v.category).sum + 12 ≤ Y.2.2.2.2.1.locals) (k : zZ g Y Q (pc + 3) lv st h ce sl) : zZ g Y Q pc0 lv (.ref a :: st) h ce sl := by
  subst hp
  intro p e s m args below meth c H locs ls C hO hS hl
  exact W.objInit C.1 C.2.1 C.own (C.K.word w1 rfl) (C.K.word w2 rfl) (C.K.word w3 rfl) rfl (hl.1.trans C.2.2.1.symm) rfl hd hf (by show 2 * 0 + _ + 12 ≤ _; omega) (k p e s m args below meth c H locs ls C hO hS hl)
theorem z_mmax {index : Nat} {x y : Int32} (w1 : Cond.methodLink Y.1 index Lib.Math.max.name ∈ lw_tbl) (w2 : Cond.static Lib.Math.max.name ∈ lw_tbl) (w3 : Cond.initialized "java/lang/Math" ∈ lw_tbl) (w4 : Cond.code Lib.Math.max.name Lib.Math.max.code 2 (some .int) ∈ lw_tbl) (hd : decode Y.2.1 pc = .ok (.invokestatic index, 3)) (hp : pc0 = pc) (hf : 1 ≤ Y.2.2.2.2.1.frames) (hlc : (st.map fun v => v.category).sum + 13 ≤ Y.2.2.2.2.1.locals) (hc : ce ≤ Y.2.2.2.2.1.cells) (hs : sl ≤ Y.2.2.2.2.1.slots) (k : zZ g Y Q (pc + 3) lv (.int (if x < y then y else x) :: st) h ce sl) : zZ g Y Q pc0 lv (.int y :: .int x :: st) h ce sl := by
  subst hp
  intro p e s m args below meth c H locs ls C hO hS hl
  exact va_mmax C.1 C.2.1 (C.2.2.1.trans hl.1.symm) C.own (C.K.word w1 rfl) (C.K.word w2 rfl) (C.K.word w3 rfl) (C.K.word w4 rfl) hf hlc hc hs hd (k p e s m args below meth c H locs ls C hO hS hl)
theorem z_mmin {index : Nat} {x y : Int32} (w1 : Cond.methodLink Y.1 index Lib.Math.min.name ∈ lw_tbl) (w2 : Cond.static Lib.Math.min.name ∈ lw_tbl) (w3 : Cond.initialized "java/lang/Math" ∈ lw_tbl) (w4 : Cond.code Lib.Math.min.name Lib.Math.min.code 2 (some .int) ∈ lw_tbl) (hd : decode Y.2.1 pc = .ok (.invokestatic index, 3)) (hp : pc0 = pc) (hf : 1 ≤ Y.2.2.2.2.1.frames) (hlc : (st.map fun v => v.category).sum + 13 ≤ Y.2.2.2.2.1.locals) (hc : ce ≤ Y.2.2.2.2.1.cells) (hs : sl ≤ Y.2.2.2.2.1.slots) (k : zZ g Y Q (pc + 3) lv (.int (if y < x then y else x) :: st) h ce sl) : zZ g Y Q pc0 lv (.int y :: .int x :: st) h ce sl := by
  subst hp
  intro p e s m args below meth c H locs ls C hO hS hl
  exact va_mmin C.1 C.2.1 (C.2.2.1.trans hl.1.symm) C.own (C.K.word w1 rfl) (C.K.word w2 rfl) (C.K.word w3 rfl) (C.K.word w4 rfl) hf hlc hc hs hd (k p e s m args below meth c H locs ls C hO hS hl)

theorem z_iret {v : Int32} {post : Option Value → zH → Prop} {mc ms : Nat} (hd : decode Y.2.1 pc = .ok (.ireturn, 1)) (hp : pc0 = pc) (hr : Y.2.2.2.1 = some .int) (hq : post (some (.int v)) h) (hc : ce ≤ mc) (hs : sl ≤ ms) : zZ g Y (zE g post mc ms) pc0 lv [.int v] h ce sl := by
  subst hp
  intro p e s m args below meth c H locs ls C hO hS hl
  refine W.widen hc hs ?_
  have hlk := C.locks
  exact W.iret C.1 C.2.1 (C.2.2.2.1.trans hr) (fun t ht hW => ⟨_, h, rfl, hq, by rw [ht]; exact hO, hS.F ht⟩) (fun q hq => hS.2.2 q hq) hd
theorem z_zret {v : Int32} {post : Option Value → zH → Prop} {mc ms : Nat} {ty : FieldType} (hd : decode Y.2.1 pc = .ok (.ireturn, 1)) (hp : pc0 = pc) (hr : Y.2.2.2.1 = some ty) (hn : narrow ty (.int v) = .int v) (hq : post (some (.int v)) h) (hc : ce ≤ mc) (hs : sl ≤ ms) : zZ g Y (zE g post mc ms) pc0 lv [.int v] h ce sl := by
  subst hp
  intro p e s m args below meth c H locs ls C hO hS hl
  refine W.widen hc hs ?_
  have hlk := C.locks
  exact W.zret C.1 C.2.1 (C.2.2.2.1.trans hr) hn (fun t ht hW => ⟨_, h, rfl, hq, by rw [ht]; exact hO, hS.F ht⟩) (fun q hq => hS.2.2 q hq) hd
theorem z_lret {v : Int64} {post : Option Value → zH → Prop} {mc ms : Nat} (hd : decode Y.2.1 pc = .ok (.lreturn, 1)) (hp : pc0 = pc) (hr : Y.2.2.2.1 = some .long) (hq : post (some (.long v)) h) (hc : ce ≤ mc) (hs : sl ≤ ms) : zZ g Y (zE g post mc ms) pc0 lv [.long v] h ce sl := by
  subst hp
  intro p e s m args below meth c H locs ls C hO hS hl
  refine W.widen hc hs ?_
  have hlk := C.locks
  exact W.lret C.1 C.2.1 (C.2.2.2.1.trans hr) (fun t ht hW => ⟨_, h, rfl, hq, by rw [ht]; exact hO, hS.F ht⟩) (fun q hq => hS.2.2 q hq) hd
theorem z_fret {v : UInt32} {post : Option Value → zH → Prop} {mc ms : Nat} (hd : decode Y.2.1 pc = .ok (.freturn, 1)) (hp : pc0 = pc) (hr : Y.2.2.2.1 = some .float) (hq : post (some (.float v)) h) (hc : ce ≤ mc) (hs : sl ≤ ms) : zZ g Y (zE g post mc ms) pc0 lv [.float v] h ce sl := by
  subst hp
  intro p e s m args below meth c H locs ls C hO hS hl
  refine W.widen hc hs ?_
  have hlk := C.locks
  exact W.fret C.1 C.2.1 (C.2.2.2.1.trans hr) (fun t ht hW => ⟨_, h, rfl, hq, by rw [ht]; exact hO, hS.F ht⟩) (fun q hq => hS.2.2 q hq) hd
theorem z_dret {v : UInt64} {post : Option Value → zH → Prop} {mc ms : Nat} (hd : decode Y.2.1 pc = .ok (.dreturn, 1)) (hp : pc0 = pc) (hr : Y.2.2.2.1 = some .double) (hq : post (some (.double v)) h) (hc : ce ≤ mc) (hs : sl ≤ ms) : zZ g Y (zE g post mc ms) pc0 lv [.double v] h ce sl := by
  subst hp
  intro p e s m args below meth c H locs ls C hO hS hl
  refine W.widen hc hs ?_
  have hlk := C.locks
  exact W.dret C.1 C.2.1 (C.2.2.2.1.trans hr) (fun t ht hW => ⟨_, h, rfl, hq, by rw [ht]; exact hO, hS.F ht⟩) (fun q hq => hS.2.2 q hq) hd
theorem z_aret {v : Nat} {post : Option Value → zH → Prop} {mc ms : Nat} {rt : FieldType} (hd : decode Y.2.1 pc = .ok (.areturn, 1)) (hp : pc0 = pc) (hr : Y.2.2.2.1 = some rt) (hrt : (∃ n, rt = .object n) ∨ ∃ t, rt = .array t) (hq : post (some (.ref v)) h) (hc : ce ≤ mc) (hs : sl ≤ ms) : zZ g Y (zE g post mc ms) pc0 lv [.ref v] h ce sl := by
  subst hp
  intro p e s m args below meth c H locs ls C hO hS hl
  refine W.widen hc hs ?_
  have hlk := C.locks
  exact W.aret C.1 C.2.1 (C.2.2.2.1.trans hr) hrt (Or.inr ⟨_, rfl⟩) (fun t ht hW => ⟨_, h, rfl, hq, by rw [ht]; exact hO, hS.F ht⟩) (fun q hq => hS.2.2 q hq) hd
theorem z_vret {post : Option Value → zH → Prop} {mc ms : Nat} (hd : decode Y.2.1 pc = .ok (.return_, 1)) (hp : pc0 = pc) (hr : Y.2.2.2.1 = none) (hq : post none h) (hc : ce ≤ mc) (hs : sl ≤ ms) : zZ g Y (zE g post mc ms) pc0 lv [] h ce sl := by
  subst hp
  intro p e s m args below meth c H locs ls C hO hS hl
  refine W.widen hc hs ?_
  have hlk := C.locks
  exact W.vret C.1 C.2.1 (C.2.2.2.1.trans hr) (fun t ht hW => ⟨_, h, rfl, hq, by rw [ht]; exact hO, hS.F ht⟩) (fun q hq => hS.2.2 q hq) hd
end ZZ
/-- a contract out of a walk -/
theorem zM_of {g : zG} {y : MethodName} {cc : ByteArray} {maxL : Nat} {ret : Option FieldType} {rm : Room} {av : List Value} {h : zH} {post : Option Value → zH → Prop} (hy : plainName y.cls = true) (hlen : (lg_sl av).length ≤ maxL) (k : zZ g (y.cls, cc, maxL, ret, rm, y.name, fun _ _ => True) (zE g post rm.cells rm.slots) 0 (lv_args 0 av) [] h 0 0) : zM g y cc maxL ret rm av h post := by
  refine Met.ofW (cc := cc) (maxL := maxL) (ret := ret) hy rfl ?_
  intro p e s m args below meth c s₁ B hml hv
  obtain ⟨rfl, hO, hK, hlo⟩ := hv
  have hl := lv_entry av (n := maxL) hlen
  rw [lg_entry_eq]
  generalize (lg_sl av ++ List.replicate (maxL - (lg_sl av).length) Slot.unset).toArray = ls at hl ⊢
  exact k p e s m _ below meth c s.heap [] ls ⟨B.exec, B.bytes, hml, B.returns, findClass_of_methodNamed B.named, B.notSynchronized, (name_of_methodNamed B.named B.method).1, hK, hlo, trivial⟩ hO va_S.rf hl
/-- a weaker end -/
theorem zM.mono {g : zG} {y : MethodName} {cc : ByteArray} {maxL : Nat} {ret : Option FieldType} {rm : Room} {av : List Value} {h : zH} {post post' : Option Value → zH → Prop} (hM : zM g y cc maxL ret rm av h post) (hq : ∀ v h1, post v h1 → post' v h1) : zM g y cc maxL ret rm av h post' := by
  unfold zM Met at *
  refine MetFree.mono hM (fun _ _ h => h) (fun _ _ _ _ _ h => h) ?_
  intro a st o t _ hh
  obtain ⟨⟨v, h1, a1, a2, a3⟩, L⟩ := hh
  exact ⟨⟨v, h1, a1, hq _ _ a2, a3⟩, L⟩
end
