section
/-- a private method of a class that the tables say can be made, by its rows of tables_1 -/
def lw_okq (q : MethodName × Nat) : Prop := (q.1.cls ≠ "java/lang/invoke/MethodHandle" ∧ q.1.cls ≠ "java/lang/invoke/VarHandle") ∧ Cond.instantiable q.1.cls q.2 ∈ tables_1 ∧ Cond.privateMethod q.1 ∈ tables_1 ∧ Cond.instanceMethod q.1 ∈ tables_1
theorem lw_p0 : lw_okq (⟨"LureTown$TownReader", "readClause", "(I)V"⟩, 3) := ⟨⟨by decide +kernel, by decide +kernel⟩, List.mem_of_getElem? (i := 67) (by decide +kernel), List.mem_of_getElem? (i := 449) (by decide +kernel), List.mem_of_getElem? (i := 450) (by decide +kernel)⟩
theorem lw_p1 : lw_okq (⟨"LureTown$Tape", "digitAt", "(I)Z"⟩, 7) := ⟨⟨by decide +kernel, by decide +kernel⟩, List.mem_of_getElem? (i := 30) (by decide +kernel), List.mem_of_getElem? (i := 457) (by decide +kernel), List.mem_of_getElem? (i := 458) (by decide +kernel)⟩
theorem lw_p2 : lw_okq (⟨"LureTown$Tape", "readNumber", "()V"⟩, 7) := ⟨⟨by decide +kernel, by decide +kernel⟩, List.mem_of_getElem? (i := 30) (by decide +kernel), List.mem_of_getElem? (i := 461) (by decide +kernel), List.mem_of_getElem? (i := 462) (by decide +kernel)⟩
theorem lw_p3 : lw_okq (⟨"LureTown$Tape", "letterAt", "(I)Z"⟩, 7) := ⟨⟨by decide +kernel, by decide +kernel⟩, List.mem_of_getElem? (i := 30) (by decide +kernel), List.mem_of_getElem? (i := 465) (by decide +kernel), List.mem_of_getElem? (i := 466) (by decide +kernel)⟩
theorem lw_p4 : lw_okq (⟨"LureTown$Tape", "readWord", "()V"⟩, 7) := ⟨⟨by decide +kernel, by decide +kernel⟩, List.mem_of_getElem? (i := 30) (by decide +kernel), List.mem_of_getElem? (i := 469) (by decide +kernel), List.mem_of_getElem? (i := 470) (by decide +kernel)⟩
theorem lw_p5 : lw_okq (⟨"LureTown$Tape", "isWordAt", "(I)Z"⟩, 7) := ⟨⟨by decide +kernel, by decide +kernel⟩, List.mem_of_getElem? (i := 30) (by decide +kernel), List.mem_of_getElem? (i := 522) (by decide +kernel), List.mem_of_getElem? (i := 523) (by decide +kernel)⟩
theorem lw_p6 : lw_okq (⟨"LureTown$Tape", "readSign", "()V"⟩, 7) := ⟨⟨by decide +kernel, by decide +kernel⟩, List.mem_of_getElem? (i := 30) (by decide +kernel), List.mem_of_getElem? (i := 526) (by decide +kernel), List.mem_of_getElem? (i := 527) (by decide +kernel)⟩
theorem lw_p7 : lw_okq (⟨"LureTown$TownReader", "isTooMany", "(II)Z"⟩, 3) := ⟨⟨by decide +kernel, by decide +kernel⟩, List.mem_of_getElem? (i := 67) (by decide +kernel), List.mem_of_getElem? (i := 594) (by decide +kernel), List.mem_of_getElem? (i := 595) (by decide +kernel)⟩
theorem lw_p8 : lw_okq (⟨"LureTown$TownReader", "mostOf", "(II)I"⟩, 3) := ⟨⟨by decide +kernel, by decide +kernel⟩, List.mem_of_getElem? (i := 67) (by decide +kernel), List.mem_of_getElem? (i := 601) (by decide +kernel), List.mem_of_getElem? (i := 602) (by decide +kernel)⟩
theorem lw_p9 : lw_okq (⟨"LureTown$TownReader", "readNumber", "(III)V"⟩, 3) := ⟨⟨by decide +kernel, by decide +kernel⟩, List.mem_of_getElem? (i := 67) (by decide +kernel), List.mem_of_getElem? (i := 605) (by decide +kernel), List.mem_of_getElem? (i := 606) (by decide +kernel)⟩
theorem lw_p10 : lw_okq (⟨"LureTown$TownReader", "tellTown", "(I)V"⟩, 3) := ⟨⟨by decide +kernel, by decide +kernel⟩, List.mem_of_getElem? (i := 67) (by decide +kernel), List.mem_of_getElem? (i := 609) (by decide +kernel), List.mem_of_getElem? (i := 610) (by decide +kernel)⟩
theorem lw_p11 : lw_okq (⟨"LureTown$TownReader", "readClauseEnd", "()V"⟩, 3) := ⟨⟨by decide +kernel, by decide +kernel⟩, List.mem_of_getElem? (i := 67) (by decide +kernel), List.mem_of_getElem? (i := 629) (by decide +kernel), List.mem_of_getElem? (i := 630) (by decide +kernel)⟩
theorem lw_p12 : lw_okq (⟨"LureTown$RuleReader", "takeToken", "()V"⟩, 9) := ⟨⟨by decide +kernel, by decide +kernel⟩, List.mem_of_getElem? (i := 193) (by decide +kernel), List.mem_of_getElem? (i := 672) (by decide +kernel), List.mem_of_getElem? (i := 673) (by decide +kernel)⟩
theorem lw_p13 : lw_okq (⟨"LureTown$RuleReader", "takeClause", "()V"⟩, 9) := ⟨⟨by decide +kernel, by decide +kernel⟩, List.mem_of_getElem? (i := 193) (by decide +kernel), List.mem_of_getElem? (i := 676) (by decide +kernel), List.mem_of_getElem? (i := 677) (by decide +kernel)⟩
theorem lw_p14 : lw_okq (⟨"LureTown$RuleReader", "takeFact", "()V"⟩, 9) := ⟨⟨by decide +kernel, by decide +kernel⟩, List.mem_of_getElem? (i := 193) (by decide +kernel), List.mem_of_getElem? (i := 681) (by decide +kernel), List.mem_of_getElem? (i := 682) (by decide +kernel)⟩
theorem lw_p15 : lw_okq (⟨"LureTown$RuleReader", "takeValue", "()V"⟩, 9) := ⟨⟨by decide +kernel, by decide +kernel⟩, List.mem_of_getElem? (i := 193) (by decide +kernel), List.mem_of_getElem? (i := 685) (by decide +kernel), List.mem_of_getElem? (i := 686) (by decide +kernel)⟩
def lw_privs_1 : List (MethodName × Nat) := [(⟨"LureTown$TownReader", "readClause", "(I)V"⟩, 3), (⟨"LureTown$Tape", "digitAt", "(I)Z"⟩, 7), (⟨"LureTown$Tape", "readNumber", "()V"⟩, 7), (⟨"LureTown$Tape", "letterAt", "(I)Z"⟩, 7), (⟨"LureTown$Tape", "readWord", "()V"⟩, 7), (⟨"LureTown$Tape", "isWordAt", "(I)Z"⟩, 7), (⟨"LureTown$Tape", "readSign", "()V"⟩, 7), (⟨"LureTown$TownReader", "isTooMany", "(II)Z"⟩, 3), (⟨"LureTown$TownReader", "mostOf", "(II)I"⟩, 3), (⟨"LureTown$TownReader", "readNumber", "(III)V"⟩, 3), (⟨"LureTown$TownReader", "tellTown", "(I)V"⟩, 3), (⟨"LureTown$TownReader", "readClauseEnd", "()V"⟩, 3), (⟨"LureTown$RuleReader", "takeToken", "()V"⟩, 9), (⟨"LureTown$RuleReader", "takeClause", "()V"⟩, 9), (⟨"LureTown$RuleReader", "takeFact", "()V"⟩, 9), (⟨"LureTown$RuleReader", "takeValue", "()V"⟩, 9)]
theorem lw_r1 : ∀ q ∈ lw_privs_1, lw_okq q := List.forall_mem_cons.mpr ⟨lw_p0, List.forall_mem_cons.mpr ⟨lw_p1, List.forall_mem_cons.mpr ⟨lw_p2, List.forall_mem_cons.mpr ⟨lw_p3, List.forall_mem_cons.mpr ⟨lw_p4, List.forall_mem_cons.mpr ⟨lw_p5, List.forall_mem_cons.mpr ⟨lw_p6, List.forall_mem_cons.mpr ⟨lw_p7, List.forall_mem_cons.mpr ⟨lw_p8, List.forall_mem_cons.mpr ⟨lw_p9, List.forall_mem_cons.mpr ⟨lw_p10, List.forall_mem_cons.mpr ⟨lw_p11, List.forall_mem_cons.mpr ⟨lw_p12, List.forall_mem_cons.mpr ⟨lw_p13, List.forall_mem_cons.mpr ⟨lw_p14, List.forall_mem_cons.mpr ⟨lw_p15, fun _ h => absurd h List.not_mem_nil⟩⟩⟩⟩⟩⟩⟩⟩⟩⟩⟩⟩⟩⟩⟩⟩
theorem lw_p16 : lw_okq (⟨"LureTown$RuleReader", "takePart", "()V"⟩, 9) := ⟨⟨by decide +kernel, by decide +kernel⟩, List.mem_of_getElem? (i := 193) (by decide +kernel), List.mem_of_getElem? (i := 689) (by decide +kernel), List.mem_of_getElem? (i := 690) (by decide +kernel)⟩
theorem lw_p17 : lw_okq (⟨"LureTown$RuleReader", "hold", "(I)V"⟩, 9) := ⟨⟨by decide +kernel, by decide +kernel⟩, List.mem_of_getElem? (i := 193) (by decide +kernel), List.mem_of_getElem? (i := 697) (by decide +kernel), List.mem_of_getElem? (i := 698) (by decide +kernel)⟩
theorem lw_p18 : lw_okq (⟨"LureTown$RuleReader", "takeMore", "()V"⟩, 9) := ⟨⟨by decide +kernel, by decide +kernel⟩, List.mem_of_getElem? (i := 193) (by decide +kernel), List.mem_of_getElem? (i := 701) (by decide +kernel), List.mem_of_getElem? (i := 702) (by decide +kernel)⟩
theorem lw_p19 : lw_okq (⟨"LureTown$RuleReader", "takeOperator", "(II)V"⟩, 9) := ⟨⟨by decide +kernel, by decide +kernel⟩, List.mem_of_getElem? (i := 193) (by decide +kernel), List.mem_of_getElem? (i := 708) (by decide +kernel), List.mem_of_getElem? (i := 709) (by decide +kernel)⟩
theorem lw_p20 : lw_okq (⟨"LureTown$RuleReader", "release", "(I)V"⟩, 9) := ⟨⟨by decide +kernel, by decide +kernel⟩, List.mem_of_getElem? (i := 193) (by decide +kernel), List.mem_of_getElem? (i := 712) (by decide +kernel), List.mem_of_getElem? (i := 713) (by decide +kernel)⟩
theorem lw_p21 : lw_okq (⟨"LureTown$RuleReader", "closeBracket", "()V"⟩, 9) := ⟨⟨by decide +kernel, by decide +kernel⟩, List.mem_of_getElem? (i := 193) (by decide +kernel), List.mem_of_getElem? (i := 720) (by decide +kernel), List.mem_of_getElem? (i := 721) (by decide +kernel)⟩
theorem lw_p22 : lw_okq (⟨"LureTown", "hasLure", "(I)Z"⟩, 17) := ⟨⟨by decide +kernel, by decide +kernel⟩, List.mem_of_getElem? (i := 22) (by decide +kernel), List.mem_of_getElem? (i := 736) (by decide +kernel), List.mem_of_getElem? (i := 737) (by decide +kernel)⟩
theorem lw_p23 : lw_okq (⟨"LureTown", "hasWalker", "(I)Z"⟩, 17) := ⟨⟨by decide +kernel, by decide +kernel⟩, List.mem_of_getElem? (i := 22) (by decide +kernel), List.mem_of_getElem? (i := 748) (by decide +kernel), List.mem_of_getElem? (i := 749) (by decide +kernel)⟩
theorem lw_p24 : lw_okq (⟨"LureTown", "hasCorner", "(I)Z"⟩, 17) := ⟨⟨by decide +kernel, by decide +kernel⟩, List.mem_of_getElem? (i := 22) (by decide +kernel), List.mem_of_getElem? (i := 756) (by decide +kernel), List.mem_of_getElem? (i := 757) (by decide +kernel)⟩
theorem lw_p25 : lw_okq (⟨"LureTown", "walkersAtHome", "()I"⟩, 17) := ⟨⟨by decide +kernel, by decide +kernel⟩, List.mem_of_getElem? (i := 22) (by decide +kernel), List.mem_of_getElem? (i := 764) (by decide +kernel), List.mem_of_getElem? (i := 765) (by decide +kernel)⟩
theorem lw_p26 : lw_okq (⟨"LureTown", "hasTown", "()Z"⟩, 17) := ⟨⟨by decide +kernel, by decide +kernel⟩, List.mem_of_getElem? (i := 22) (by decide +kernel), List.mem_of_getElem? (i := 776) (by decide +kernel), List.mem_of_getElem? (i := 777) (by decide +kernel)⟩
theorem lw_p27 : lw_okq (⟨"LureTown", "startNow", "()V"⟩, 17) := ⟨⟨by decide +kernel, by decide +kernel⟩, List.mem_of_getElem? (i := 22) (by decide +kernel), List.mem_of_getElem? (i := 786) (by decide +kernel), List.mem_of_getElem? (i := 787) (by decide +kernel)⟩
theorem lw_p28 : lw_okq (⟨"LureTown", "inForce", "()LLureTown$Rule;"⟩, 17) := ⟨⟨by decide +kernel, by decide +kernel⟩, List.mem_of_getElem? (i := 22) (by decide +kernel), List.mem_of_getElem? (i := 790) (by decide +kernel), List.mem_of_getElem? (i := 791) (by decide +kernel)⟩
theorem lw_p29 : lw_okq (⟨"LureTown", "ruleOf", "(I)LLureTown$Rule;"⟩, 17) := ⟨⟨by decide +kernel, by decide +kernel⟩, List.mem_of_getElem? (i := 22) (by decide +kernel), List.mem_of_getElem? (i := 794) (by decide +kernel), List.mem_of_getElem? (i := 795) (by decide +kernel)⟩
theorem lw_p30 : lw_okq (⟨"LureTown$Course", "homeward", "(I)I"⟩, 6) := ⟨⟨by decide +kernel, by decide +kernel⟩, List.mem_of_getElem? (i := 334) (by decide +kernel), List.mem_of_getElem? (i := 807) (by decide +kernel), List.mem_of_getElem? (i := 808) (by decide +kernel)⟩
theorem lw_p31 : lw_okq (⟨"LureTown$Course", "ruledGoal", "(I)I"⟩, 6) := ⟨⟨by decide +kernel, by decide +kernel⟩, List.mem_of_getElem? (i := 334) (by decide +kernel), List.mem_of_getElem? (i := 815) (by decide +kernel), List.mem_of_getElem? (i := 816) (by decide +kernel)⟩
def lw_privs_2 : List (MethodName × Nat) := [(⟨"LureTown$RuleReader", "takePart", "()V"⟩, 9), (⟨"LureTown$RuleReader", "hold", "(I)V"⟩, 9), (⟨"LureTown$RuleReader", "takeMore", "()V"⟩, 9), (⟨"LureTown$RuleReader", "takeOperator", "(II)V"⟩, 9), (⟨"LureTown$RuleReader", "release", "(I)V"⟩, 9), (⟨"LureTown$RuleReader", "closeBracket", "()V"⟩, 9), (⟨"LureTown", "hasLure", "(I)Z"⟩, 17), (⟨"LureTown", "hasWalker", "(I)Z"⟩, 17), (⟨"LureTown", "hasCorner", "(I)Z"⟩, 17), (⟨"LureTown", "walkersAtHome", "()I"⟩, 17), (⟨"LureTown", "hasTown", "()Z"⟩, 17), (⟨"LureTown", "startNow", "()V"⟩, 17), (⟨"LureTown", "inForce", "()LLureTown$Rule;"⟩, 17), (⟨"LureTown", "ruleOf", "(I)LLureTown$Rule;"⟩, 17), (⟨"LureTown$Course", "homeward", "(I)I"⟩, 6), (⟨"LureTown$Course", "ruledGoal", "(I)I"⟩, 6)]
theorem lw_r2 : ∀ q ∈ lw_privs_2, lw_okq q := List.forall_mem_cons.mpr ⟨lw_p16, List.forall_mem_cons.mpr ⟨lw_p17, List.forall_mem_cons.mpr ⟨lw_p18, List.forall_mem_cons.mpr ⟨lw_p19, List.forall_mem_cons.mpr ⟨lw_p20, List.forall_mem_cons.mpr ⟨lw_p21, List.forall_mem_cons.mpr ⟨lw_p22, List.forall_mem_cons.mpr ⟨lw_p23, List.forall_mem_cons.mpr ⟨lw_p24, List.forall_mem_cons.mpr ⟨lw_p25, List.forall_mem_cons.mpr ⟨lw_p26, List.forall_mem_cons.mpr ⟨lw_p27, List.forall_mem_cons.mpr ⟨lw_p28, List.forall_mem_cons.mpr ⟨lw_p29, List.forall_mem_cons.mpr ⟨lw_p30, List.forall_mem_cons.mpr ⟨lw_p31, fun _ h => absurd h List.not_mem_nil⟩⟩⟩⟩⟩⟩⟩⟩⟩⟩⟩⟩⟩⟩⟩⟩
theorem lw_p32 : lw_okq (⟨"LureTown$Course", "tellWalker", "(I)V"⟩, 6) := ⟨⟨by decide +kernel, by decide +kernel⟩, List.mem_of_getElem? (i := 334) (by decide +kernel), List.mem_of_getElem? (i := 819) (by decide +kernel), List.mem_of_getElem? (i := 820) (by decide +kernel)⟩
theorem lw_p33 : lw_okq (⟨"LureTown$Course", "tellCorner", "(II)V"⟩, 6) := ⟨⟨by decide +kernel, by decide +kernel⟩, List.mem_of_getElem? (i := 334) (by decide +kernel), List.mem_of_getElem? (i := 823) (by decide +kernel), List.mem_of_getElem? (i := 824) (by decide +kernel)⟩
theorem lw_p34 : lw_okq (⟨"LureTown$Rule", "answer", "(II[I)J"⟩, 6) := ⟨⟨by decide +kernel, by decide +kernel⟩, List.mem_of_getElem? (i := 201) (by decide +kernel), List.mem_of_getElem? (i := 836) (by decide +kernel), List.mem_of_getElem? (i := 837) (by decide +kernel)⟩
theorem lw_p35 : lw_okq (⟨"LureTown$Course", "spring", "(II)V"⟩, 6) := ⟨⟨by decide +kernel, by decide +kernel⟩, List.mem_of_getElem? (i := 334) (by decide +kernel), List.mem_of_getElem? (i := 849) (by decide +kernel), List.mem_of_getElem? (i := 850) (by decide +kernel)⟩
theorem lw_p36 : lw_okq (⟨"LureTown", "hasSetLure", "(I)Z"⟩, 17) := ⟨⟨by decide +kernel, by decide +kernel⟩, List.mem_of_getElem? (i := 22) (by decide +kernel), List.mem_of_getElem? (i := 863) (by decide +kernel), List.mem_of_getElem? (i := 864) (by decide +kernel)⟩
theorem lw_p37 : lw_okq (⟨"LureTown", "goTillHad", "(I)I"⟩, 17) := ⟨⟨by decide +kernel, by decide +kernel⟩, List.mem_of_getElem? (i := 22) (by decide +kernel), List.mem_of_getElem? (i := 896) (by decide +kernel), List.mem_of_getElem? (i := 897) (by decide +kernel)⟩
theorem lw_p38 : lw_okq (⟨"LureTown", "markSteps", "()V"⟩, 17) := ⟨⟨by decide +kernel, by decide +kernel⟩, List.mem_of_getElem? (i := 22) (by decide +kernel), List.mem_of_getElem? (i := 908) (by decide +kernel), List.mem_of_getElem? (i := 909) (by decide +kernel)⟩
theorem lw_p39 : lw_okq (⟨"LureTown", "goDrawn", "(IIJ)J"⟩, 17) := ⟨⟨by decide +kernel, by decide +kernel⟩, List.mem_of_getElem? (i := 22) (by decide +kernel), List.mem_of_getElem? (i := 916) (by decide +kernel), List.mem_of_getElem? (i := 917) (by decide +kernel)⟩
theorem lw_p40 : lw_okq (⟨"LureTown", "bestOf", "([IIIII)I"⟩, 17) := ⟨⟨by decide +kernel, by decide +kernel⟩, List.mem_of_getElem? (i := 22) (by decide +kernel), List.mem_of_getElem? (i := 965) (by decide +kernel), List.mem_of_getElem? (i := 966) (by decide +kernel)⟩
theorem lw_p41 : lw_okq (⟨"LureTown", "weighTwos", "(III)V"⟩, 17) := ⟨⟨by decide +kernel, by decide +kernel⟩, List.mem_of_getElem? (i := 22) (by decide +kernel), List.mem_of_getElem? (i := 977) (by decide +kernel), List.mem_of_getElem? (i := 978) (by decide +kernel)⟩
theorem lw_p42 : lw_okq (⟨"LureTown", "isRest", "(II)Z"⟩, 17) := ⟨⟨by decide +kernel, by decide +kernel⟩, List.mem_of_getElem? (i := 22) (by decide +kernel), List.mem_of_getElem? (i := 985) (by decide +kernel), List.mem_of_getElem? (i := 986) (by decide +kernel)⟩
theorem lw_p43 : lw_okq (⟨"LureTown", "choicesThatAreSo", "([III)I"⟩, 17) := ⟨⟨by decide +kernel, by decide +kernel⟩, List.mem_of_getElem? (i := 22) (by decide +kernel), List.mem_of_getElem? (i := 1005) (by decide +kernel), List.mem_of_getElem? (i := 1006) (by decide +kernel)⟩
theorem lw_p44 : lw_okq (⟨"LureTown", "notesAreSo", "(LLureTown$Rule;LLureTown$State;)Z"⟩, 17) := ⟨⟨by decide +kernel, by decide +kernel⟩, List.mem_of_getElem? (i := 22) (by decide +kernel), List.mem_of_getElem? (i := 1009) (by decide +kernel), List.mem_of_getElem? (i := 1010) (by decide +kernel)⟩
theorem lw_p45 : lw_okq (⟨"LureTown", "tallyRules", "(I)I"⟩, 17) := ⟨⟨by decide +kernel, by decide +kernel⟩, List.mem_of_getElem? (i := 22) (by decide +kernel), List.mem_of_getElem? (i := 1034) (by decide +kernel), List.mem_of_getElem? (i := 1035) (by decide +kernel)⟩
theorem lw_p46 : lw_okq (⟨"LureTown", "mostAlike", "(I)I"⟩, 17) := ⟨⟨by decide +kernel, by decide +kernel⟩, List.mem_of_getElem? (i := 22) (by decide +kernel), List.mem_of_getElem? (i := 1038) (by decide +kernel), List.mem_of_getElem? (i := 1039) (by decide +kernel)⟩
theorem lw_p47 : lw_okq (⟨"LureTownModel", "four", "(I)V"⟩, 37) := ⟨⟨by decide +kernel, by decide +kernel⟩, List.mem_of_getElem? (i := 1062) (by decide +kernel), List.mem_of_getElem? (i := 1185) (by decide +kernel), List.mem_of_getElem? (i := 1186) (by decide +kernel)⟩
def lw_privs_3 : List (MethodName × Nat) := [(⟨"LureTown$Course", "tellWalker", "(I)V"⟩, 6), (⟨"LureTown$Course", "tellCorner", "(II)V"⟩, 6), (⟨"LureTown$Rule", "answer", "(II[I)J"⟩, 6), (⟨"LureTown$Course", "spring", "(II)V"⟩, 6), (⟨"LureTown", "hasSetLure", "(I)Z"⟩, 17), (⟨"LureTown", "goTillHad", "(I)I"⟩, 17), (⟨"LureTown", "markSteps", "()V"⟩, 17), (⟨"LureTown", "goDrawn", "(IIJ)J"⟩, 17), (⟨"LureTown", "bestOf", "([IIIII)I"⟩, 17), (⟨"LureTown", "weighTwos", "(III)V"⟩, 17), (⟨"LureTown", "isRest", "(II)Z"⟩, 17), (⟨"LureTown", "choicesThatAreSo", "([III)I"⟩, 17), (⟨"LureTown", "notesAreSo", "(LLureTown$Rule;LLureTown$State;)Z"⟩, 17), (⟨"LureTown", "tallyRules", "(I)I"⟩, 17), (⟨"LureTown", "mostAlike", "(I)I"⟩, 17), (⟨"LureTownModel", "four", "(I)V"⟩, 37)]
theorem lw_r3 : ∀ q ∈ lw_privs_3, lw_okq q := List.forall_mem_cons.mpr ⟨lw_p32, List.forall_mem_cons.mpr ⟨lw_p33, List.forall_mem_cons.mpr ⟨lw_p34, List.forall_mem_cons.mpr ⟨lw_p35, List.forall_mem_cons.mpr ⟨lw_p36, List.forall_mem_cons.mpr ⟨lw_p37, List.forall_mem_cons.mpr ⟨lw_p38, List.forall_mem_cons.mpr ⟨lw_p39, List.forall_mem_cons.mpr ⟨lw_p40, List.forall_mem_cons.mpr ⟨lw_p41, List.forall_mem_cons.mpr ⟨lw_p42, List.forall_mem_cons.mpr ⟨lw_p43, List.forall_mem_cons.mpr ⟨lw_p44, List.forall_mem_cons.mpr ⟨lw_p45, List.forall_mem_cons.mpr ⟨lw_p46, List.forall_mem_cons.mpr ⟨lw_p47, fun _ h => absurd h List.not_mem_nil⟩⟩⟩⟩⟩⟩⟩⟩⟩⟩⟩⟩⟩⟩⟩⟩
theorem lw_p48 : lw_okq (⟨"LureTownModel", "readsAll", "()Z"⟩, 37) := ⟨⟨by decide +kernel, by decide +kernel⟩, List.mem_of_getElem? (i := 1062) (by decide +kernel), List.mem_of_getElem? (i := 1197) (by decide +kernel), List.mem_of_getElem? (i := 1198) (by decide +kernel)⟩
theorem lw_p49 : lw_okq (⟨"LureTownModel", "clauseHere", "()Z"⟩, 37) := ⟨⟨by decide +kernel, by decide +kernel⟩, List.mem_of_getElem? (i := 1062) (by decide +kernel), List.mem_of_getElem? (i := 1201) (by decide +kernel), List.mem_of_getElem? (i := 1202) (by decide +kernel)⟩
theorem lw_p50 : lw_okq (⟨"LureTownModel", "see", "()I"⟩, 37) := ⟨⟨by decide +kernel, by decide +kernel⟩, List.mem_of_getElem? (i := 1062) (by decide +kernel), List.mem_of_getElem? (i := 1205) (by decide +kernel), List.mem_of_getElem? (i := 1206) (by decide +kernel)⟩
theorem lw_p51 : lw_okq (⟨"LureTownModel", "isTownWord", "()Z"⟩, 37) := ⟨⟨by decide +kernel, by decide +kernel⟩, List.mem_of_getElem? (i := 1062) (by decide +kernel), List.mem_of_getElem? (i := 1209) (by decide +kernel), List.mem_of_getElem? (i := 1210) (by decide +kernel)⟩
theorem lw_p52 : lw_okq (⟨"LureTownModel", "isWord", "(J)Z"⟩, 37) := ⟨⟨by decide +kernel, by decide +kernel⟩, List.mem_of_getElem? (i := 1062) (by decide +kernel), List.mem_of_getElem? (i := 1214) (by decide +kernel), List.mem_of_getElem? (i := 1215) (by decide +kernel)⟩
theorem lw_p53 : lw_okq (⟨"LureTownModel", "isLetter", "(I)Z"⟩, 37) := ⟨⟨by decide +kernel, by decide +kernel⟩, List.mem_of_getElem? (i := 1062) (by decide +kernel), List.mem_of_getElem? (i := 1218) (by decide +kernel), List.mem_of_getElem? (i := 1219) (by decide +kernel)⟩
theorem lw_p54 : lw_okq (⟨"LureTownModel", "fails", "(II)Z"⟩, 37) := ⟨⟨by decide +kernel, by decide +kernel⟩, List.mem_of_getElem? (i := 1062) (by decide +kernel), List.mem_of_getElem? (i := 1226) (by decide +kernel), List.mem_of_getElem? (i := 1227) (by decide +kernel)⟩
theorem lw_p55 : lw_okq (⟨"LureTownModel", "townLineHere", "(I)Z"⟩, 37) := ⟨⟨by decide +kernel, by decide +kernel⟩, List.mem_of_getElem? (i := 1062) (by decide +kernel), List.mem_of_getElem? (i := 1230) (by decide +kernel), List.mem_of_getElem? (i := 1231) (by decide +kernel)⟩
theorem lw_p56 : lw_okq (⟨"LureTownModel", "isTownHere", "(I)Z"⟩, 37) := ⟨⟨by decide +kernel, by decide +kernel⟩, List.mem_of_getElem? (i := 1062) (by decide +kernel), List.mem_of_getElem? (i := 1234) (by decide +kernel), List.mem_of_getElem? (i := 1235) (by decide +kernel)⟩
theorem lw_p57 : lw_okq (⟨"LureTownModel", "passWord", "()V"⟩, 37) := ⟨⟨by decide +kernel, by decide +kernel⟩, List.mem_of_getElem? (i := 1062) (by decide +kernel), List.mem_of_getElem? (i := 1238) (by decide +kernel), List.mem_of_getElem? (i := 1239) (by decide +kernel)⟩
theorem lw_p58 : lw_okq (⟨"LureTownModel", "cellHere", "(III)Z"⟩, 37) := ⟨⟨by decide +kernel, by decide +kernel⟩, List.mem_of_getElem? (i := 1062) (by decide +kernel), List.mem_of_getElem? (i := 1242) (by decide +kernel), List.mem_of_getElem? (i := 1243) (by decide +kernel)⟩
theorem lw_p59 : lw_okq (⟨"LureTownModel", "numberHere", "(II)Z"⟩, 37) := ⟨⟨by decide +kernel, by decide +kernel⟩, List.mem_of_getElem? (i := 1062) (by decide +kernel), List.mem_of_getElem? (i := 1246) (by decide +kernel), List.mem_of_getElem? (i := 1247) (by decide +kernel)⟩
theorem lw_p60 : lw_okq (⟨"LureTownModel", "isDigit", "(I)Z"⟩, 37) := ⟨⟨by decide +kernel, by decide +kernel⟩, List.mem_of_getElem? (i := 1062) (by decide +kernel), List.mem_of_getElem? (i := 1250) (by decide +kernel), List.mem_of_getElem? (i := 1251) (by decide +kernel)⟩
theorem lw_p61 : lw_okq (⟨"LureTownModel", "isWayHere", "()Z"⟩, 37) := ⟨⟨by decide +kernel, by decide +kernel⟩, List.mem_of_getElem? (i := 1062) (by decide +kernel), List.mem_of_getElem? (i := 1257) (by decide +kernel), List.mem_of_getElem? (i := 1258) (by decide +kernel)⟩
theorem lw_p62 : lw_okq (⟨"LureTownModel", "isLureHere", "(I)Z"⟩, 37) := ⟨⟨by decide +kernel, by decide +kernel⟩, List.mem_of_getElem? (i := 1062) (by decide +kernel), List.mem_of_getElem? (i := 1261) (by decide +kernel), List.mem_of_getElem? (i := 1262) (by decide +kernel)⟩
theorem lw_p63 : lw_okq (⟨"LureTownModel", "isWalkerHere", "(I)Z"⟩, 37) := ⟨⟨by decide +kernel, by decide +kernel⟩, List.mem_of_getElem? (i := 1062) (by decide +kernel), List.mem_of_getElem? (i := 1265) (by decide +kernel), List.mem_of_getElem? (i := 1266) (by decide +kernel)⟩
def lw_privs_4 : List (MethodName × Nat) := [(⟨"LureTownModel", "readsAll", "()Z"⟩, 37), (⟨"LureTownModel", "clauseHere", "()Z"⟩, 37), (⟨"LureTownModel", "see", "()I"⟩, 37), (⟨"LureTownModel", "isTownWord", "()Z"⟩, 37), (⟨"LureTownModel", "isWord", "(J)Z"⟩, 37), (⟨"LureTownModel", "isLetter", "(I)Z"⟩, 37), (⟨"LureTownModel", "fails", "(II)Z"⟩, 37), (⟨"LureTownModel", "townLineHere", "(I)Z"⟩, 37), (⟨"LureTownModel", "isTownHere", "(I)Z"⟩, 37), (⟨"LureTownModel", "passWord", "()V"⟩, 37), (⟨"LureTownModel", "cellHere", "(III)Z"⟩, 37), (⟨"LureTownModel", "numberHere", "(II)Z"⟩, 37), (⟨"LureTownModel", "isDigit", "(I)Z"⟩, 37), (⟨"LureTownModel", "isWayHere", "()Z"⟩, 37), (⟨"LureTownModel", "isLureHere", "(I)Z"⟩, 37), (⟨"LureTownModel", "isWalkerHere", "(I)Z"⟩, 37)]
theorem lw_r4 : ∀ q ∈ lw_privs_4, lw_okq q := List.forall_mem_cons.mpr ⟨lw_p48, List.forall_mem_cons.mpr ⟨lw_p49, List.forall_mem_cons.mpr ⟨lw_p50, List.forall_mem_cons.mpr ⟨lw_p51, List.forall_mem_cons.mpr ⟨lw_p52, List.forall_mem_cons.mpr ⟨lw_p53, List.forall_mem_cons.mpr ⟨lw_p54, List.forall_mem_cons.mpr ⟨lw_p55, List.forall_mem_cons.mpr ⟨lw_p56, List.forall_mem_cons.mpr ⟨lw_p57, List.forall_mem_cons.mpr ⟨lw_p58, List.forall_mem_cons.mpr ⟨lw_p59, List.forall_mem_cons.mpr ⟨lw_p60, List.forall_mem_cons.mpr ⟨lw_p61, List.forall_mem_cons.mpr ⟨lw_p62, List.forall_mem_cons.mpr ⟨lw_p63, fun _ h => absurd h List.not_mem_nil⟩⟩⟩⟩⟩⟩⟩⟩⟩⟩⟩⟩⟩⟩⟩⟩
theorem lw_p64 : lw_okq (⟨"LureTownModel", "isGoHere", "()Z"⟩, 37) := ⟨⟨by decide +kernel, by decide +kernel⟩, List.mem_of_getElem? (i := 1062) (by decide +kernel), List.mem_of_getElem? (i := 1269) (by decide +kernel), List.mem_of_getElem? (i := 1270) (by decide +kernel)⟩
theorem lw_p65 : lw_okq (⟨"LureTownModel", "sum", "()Z"⟩, 37) := ⟨⟨by decide +kernel, by decide +kernel⟩, List.mem_of_getElem? (i := 1062) (by decide +kernel), List.mem_of_getElem? (i := 1273) (by decide +kernel), List.mem_of_getElem? (i := 1274) (by decide +kernel)⟩
theorem lw_p66 : lw_okq (⟨"LureTownModel", "term", "()Z"⟩, 37) := ⟨⟨by decide +kernel, by decide +kernel⟩, List.mem_of_getElem? (i := 1062) (by decide +kernel), List.mem_of_getElem? (i := 1277) (by decide +kernel), List.mem_of_getElem? (i := 1278) (by decide +kernel)⟩
theorem lw_p67 : lw_okq (⟨"LureTownModel", "value", "()Z"⟩, 37) := ⟨⟨by decide +kernel, by decide +kernel⟩, List.mem_of_getElem? (i := 1062) (by decide +kernel), List.mem_of_getElem? (i := 1281) (by decide +kernel), List.mem_of_getElem? (i := 1282) (by decide +kernel)⟩
theorem lw_p68 : lw_okq (⟨"LureTownModel", "makes", "(I)Z"⟩, 37) := ⟨⟨by decide +kernel, by decide +kernel⟩, List.mem_of_getElem? (i := 1062) (by decide +kernel), List.mem_of_getElem? (i := 1286) (by decide +kernel), List.mem_of_getElem? (i := 1287) (by decide +kernel)⟩
theorem lw_p69 : lw_okq (⟨"LureTownModel", "puts", "(II)V"⟩, 37) := ⟨⟨by decide +kernel, by decide +kernel⟩, List.mem_of_getElem? (i := 1062) (by decide +kernel), List.mem_of_getElem? (i := 1290) (by decide +kernel), List.mem_of_getElem? (i := 1291) (by decide +kernel)⟩
theorem lw_p70 : lw_okq (⟨"LureTownModel", "wordHere", "()I"⟩, 37) := ⟨⟨by decide +kernel, by decide +kernel⟩, List.mem_of_getElem? (i := 1062) (by decide +kernel), List.mem_of_getElem? (i := 1294) (by decide +kernel), List.mem_of_getElem? (i := 1295) (by decide +kernel)⟩
theorem lw_p71 : lw_okq (⟨"LureTownModel", "takesWord", "(J)Z"⟩, 37) := ⟨⟨by decide +kernel, by decide +kernel⟩, List.mem_of_getElem? (i := 1062) (by decide +kernel), List.mem_of_getElem? (i := 1309) (by decide +kernel), List.mem_of_getElem? (i := 1310) (by decide +kernel)⟩
theorem lw_p72 : lw_okq (⟨"LureTownModel", "tested", "()Z"⟩, 37) := ⟨⟨by decide +kernel, by decide +kernel⟩, List.mem_of_getElem? (i := 1062) (by decide +kernel), List.mem_of_getElem? (i := 1313) (by decide +kernel), List.mem_of_getElem? (i := 1314) (by decide +kernel)⟩
theorem lw_p73 : lw_okq (⟨"LureTownModel", "fact", "()Z"⟩, 37) := ⟨⟨by decide +kernel, by decide +kernel⟩, List.mem_of_getElem? (i := 1062) (by decide +kernel), List.mem_of_getElem? (i := 1317) (by decide +kernel), List.mem_of_getElem? (i := 1318) (by decide +kernel)⟩
theorem lw_p74 : lw_okq (⟨"LureTownModel", "opens", "(I)Z"⟩, 37) := ⟨⟨by decide +kernel, by decide +kernel⟩, List.mem_of_getElem? (i := 1062) (by decide +kernel), List.mem_of_getElem? (i := 1322) (by decide +kernel), List.mem_of_getElem? (i := 1323) (by decide +kernel)⟩
theorem lw_p75 : lw_okq (⟨"LureTownModel", "compare", "()Z"⟩, 37) := ⟨⟨by decide +kernel, by decide +kernel⟩, List.mem_of_getElem? (i := 1062) (by decide +kernel), List.mem_of_getElem? (i := 1326) (by decide +kernel), List.mem_of_getElem? (i := 1327) (by decide +kernel)⟩
theorem lw_p76 : lw_okq (⟨"LureTownModel", "closes", "()V"⟩, 37) := ⟨⟨by decide +kernel, by decide +kernel⟩, List.mem_of_getElem? (i := 1062) (by decide +kernel), List.mem_of_getElem? (i := 1330) (by decide +kernel), List.mem_of_getElem? (i := 1331) (by decide +kernel)⟩
theorem lw_p77 : lw_okq (⟨"LureTownModel", "layDown", "(I)V"⟩, 37) := ⟨⟨by decide +kernel, by decide +kernel⟩, List.mem_of_getElem? (i := 1062) (by decide +kernel), List.mem_of_getElem? (i := 1334) (by decide +kernel), List.mem_of_getElem? (i := 1335) (by decide +kernel)⟩
theorem lw_p78 : lw_okq (⟨"LureTownModel", "isInside", "()Z"⟩, 37) := ⟨⟨by decide +kernel, by decide +kernel⟩, List.mem_of_getElem? (i := 1062) (by decide +kernel), List.mem_of_getElem? (i := 1341) (by decide +kernel), List.mem_of_getElem? (i := 1342) (by decide +kernel)⟩
theorem lw_p79 : lw_okq (⟨"LureTownModel", "begins", "()V"⟩, 37) := ⟨⟨by decide +kernel, by decide +kernel⟩, List.mem_of_getElem? (i := 1062) (by decide +kernel), List.mem_of_getElem? (i := 1351) (by decide +kernel), List.mem_of_getElem? (i := 1352) (by decide +kernel)⟩
def lw_privs_5 : List (MethodName × Nat) := [(⟨"LureTownModel", "isGoHere", "()Z"⟩, 37), (⟨"LureTownModel", "sum", "()Z"⟩, 37), (⟨"LureTownModel", "term", "()Z"⟩, 37), (⟨"LureTownModel", "value", "()Z"⟩, 37), (⟨"LureTownModel", "makes", "(I)Z"⟩, 37), (⟨"LureTownModel", "puts", "(II)V"⟩, 37), (⟨"LureTownModel", "wordHere", "()I"⟩, 37), (⟨"LureTownModel", "takesWord", "(J)Z"⟩, 37), (⟨"LureTownModel", "tested", "()Z"⟩, 37), (⟨"LureTownModel", "fact", "()Z"⟩, 37), (⟨"LureTownModel", "opens", "(I)Z"⟩, 37), (⟨"LureTownModel", "compare", "()Z"⟩, 37), (⟨"LureTownModel", "closes", "()V"⟩, 37), (⟨"LureTownModel", "layDown", "(I)V"⟩, 37), (⟨"LureTownModel", "isInside", "()Z"⟩, 37), (⟨"LureTownModel", "begins", "()V"⟩, 37)]
theorem lw_r5 : ∀ q ∈ lw_privs_5, lw_okq q := List.forall_mem_cons.mpr ⟨lw_p64, List.forall_mem_cons.mpr ⟨lw_p65, List.forall_mem_cons.mpr ⟨lw_p66, List.forall_mem_cons.mpr ⟨lw_p67, List.forall_mem_cons.mpr ⟨lw_p68, List.forall_mem_cons.mpr ⟨lw_p69, List.forall_mem_cons.mpr ⟨lw_p70, List.forall_mem_cons.mpr ⟨lw_p71, List.forall_mem_cons.mpr ⟨lw_p72, List.forall_mem_cons.mpr ⟨lw_p73, List.forall_mem_cons.mpr ⟨lw_p74, List.forall_mem_cons.mpr ⟨lw_p75, List.forall_mem_cons.mpr ⟨lw_p76, List.forall_mem_cons.mpr ⟨lw_p77, List.forall_mem_cons.mpr ⟨lw_p78, List.forall_mem_cons.mpr ⟨lw_p79, fun _ h => absurd h List.not_mem_nil⟩⟩⟩⟩⟩⟩⟩⟩⟩⟩⟩⟩⟩⟩⟩⟩
theorem lw_p80 : lw_okq (⟨"LureTownModel", "isRule", "(I)Z"⟩, 37) := ⟨⟨by decide +kernel, by decide +kernel⟩, List.mem_of_getElem? (i := 1062) (by decide +kernel), List.mem_of_getElem? (i := 1359) (by decide +kernel), List.mem_of_getElem? (i := 1360) (by decide +kernel)⟩
theorem lw_p81 : lw_okq (⟨"LureTownModel", "isLure", "(I)Z"⟩, 37) := ⟨⟨by decide +kernel, by decide +kernel⟩, List.mem_of_getElem? (i := 1062) (by decide +kernel), List.mem_of_getElem? (i := 1367) (by decide +kernel), List.mem_of_getElem? (i := 1368) (by decide +kernel)⟩
theorem lw_p82 : lw_okq (⟨"LureTownModel", "lureAt", "(I)I"⟩, 37) := ⟨⟨by decide +kernel, by decide +kernel⟩, List.mem_of_getElem? (i := 1062) (by decide +kernel), List.mem_of_getElem? (i := 1371) (by decide +kernel), List.mem_of_getElem? (i := 1372) (by decide +kernel)⟩
theorem lw_p83 : lw_okq (⟨"LureTownModel", "kindOf", "(I)I"⟩, 37) := ⟨⟨by decide +kernel, by decide +kernel⟩, List.mem_of_getElem? (i := 1062) (by decide +kernel), List.mem_of_getElem? (i := 1375) (by decide +kernel), List.mem_of_getElem? (i := 1376) (by decide +kernel)⟩
theorem lw_p84 : lw_okq (⟨"LureTownModel", "isWalker", "(I)Z"⟩, 37) := ⟨⟨by decide +kernel, by decide +kernel⟩, List.mem_of_getElem? (i := 1062) (by decide +kernel), List.mem_of_getElem? (i := 1383) (by decide +kernel), List.mem_of_getElem? (i := 1384) (by decide +kernel)⟩
theorem lw_p85 : lw_okq (⟨"LureTownModel", "cornerOf", "(I)I"⟩, 37) := ⟨⟨by decide +kernel, by decide +kernel⟩, List.mem_of_getElem? (i := 1062) (by decide +kernel), List.mem_of_getElem? (i := 1387) (by decide +kernel), List.mem_of_getElem? (i := 1388) (by decide +kernel)⟩
theorem lw_p86 : lw_okq (⟨"LureTownModel", "waryOf", "(I)I"⟩, 37) := ⟨⟨by decide +kernel, by decide +kernel⟩, List.mem_of_getElem? (i := 1062) (by decide +kernel), List.mem_of_getElem? (i := 1391) (by decide +kernel), List.mem_of_getElem? (i := 1392) (by decide +kernel)⟩
theorem lw_p87 : lw_okq (⟨"LureTownModel", "chargeOf", "(I)I"⟩, 37) := ⟨⟨by decide +kernel, by decide +kernel⟩, List.mem_of_getElem? (i := 1062) (by decide +kernel), List.mem_of_getElem? (i := 1395) (by decide +kernel), List.mem_of_getElem? (i := 1396) (by decide +kernel)⟩
theorem lw_p88 : lw_okq (⟨"LureTownModel", "isCorner", "(I)Z"⟩, 37) := ⟨⟨by decide +kernel, by decide +kernel⟩, List.mem_of_getElem? (i := 1062) (by decide +kernel), List.mem_of_getElem? (i := 1403) (by decide +kernel), List.mem_of_getElem? (i := 1404) (by decide +kernel)⟩
theorem lw_p89 : lw_okq (⟨"LureTownModel", "isTown", "()Z"⟩, 37) := ⟨⟨by decide +kernel, by decide +kernel⟩, List.mem_of_getElem? (i := 1062) (by decide +kernel), List.mem_of_getElem? (i := 1415) (by decide +kernel), List.mem_of_getElem? (i := 1416) (by decide +kernel)⟩
theorem lw_p90 : lw_okq (⟨"LureTownModel", "keepsAct", "()V"⟩, 37) := ⟨⟨by decide +kernel, by decide +kernel⟩, List.mem_of_getElem? (i := 1062) (by decide +kernel), List.mem_of_getElem? (i := 1419) (by decide +kernel), List.mem_of_getElem? (i := 1420) (by decide +kernel)⟩
theorem lw_p91 : lw_okq (⟨"LureTownModel", "passes", "()I"⟩, 37) := ⟨⟨by decide +kernel, by decide +kernel⟩, List.mem_of_getElem? (i := 1062) (by decide +kernel), List.mem_of_getElem? (i := 1423) (by decide +kernel), List.mem_of_getElem? (i := 1424) (by decide +kernel)⟩
theorem lw_p92 : lw_okq (⟨"LureTownModel", "choice", "(I)I"⟩, 37) := ⟨⟨by decide +kernel, by decide +kernel⟩, List.mem_of_getElem? (i := 1062) (by decide +kernel), List.mem_of_getElem? (i := 1427) (by decide +kernel), List.mem_of_getElem? (i := 1428) (by decide +kernel)⟩
theorem lw_p93 : lw_okq (⟨"LureTownModel", "homewards", "(I)I"⟩, 37) := ⟨⟨by decide +kernel, by decide +kernel⟩, List.mem_of_getElem? (i := 1062) (by decide +kernel), List.mem_of_getElem? (i := 1431) (by decide +kernel), List.mem_of_getElem? (i := 1432) (by decide +kernel)⟩
theorem lw_p94 : lw_okq (⟨"LureTownModel", "homeFrom", "(II)I"⟩, 37) := ⟨⟨by decide +kernel, by decide +kernel⟩, List.mem_of_getElem? (i := 1062) (by decide +kernel), List.mem_of_getElem? (i := 1435) (by decide +kernel), List.mem_of_getElem? (i := 1436) (by decide +kernel)⟩
theorem lw_p95 : lw_okq (⟨"LureTownModel", "waysBut", "(III)I"⟩, 37) := ⟨⟨by decide +kernel, by decide +kernel⟩, List.mem_of_getElem? (i := 1062) (by decide +kernel), List.mem_of_getElem? (i := 1439) (by decide +kernel), List.mem_of_getElem? (i := 1440) (by decide +kernel)⟩
def lw_privs_6 : List (MethodName × Nat) := [(⟨"LureTownModel", "isRule", "(I)Z"⟩, 37), (⟨"LureTownModel", "isLure", "(I)Z"⟩, 37), (⟨"LureTownModel", "lureAt", "(I)I"⟩, 37), (⟨"LureTownModel", "kindOf", "(I)I"⟩, 37), (⟨"LureTownModel", "isWalker", "(I)Z"⟩, 37), (⟨"LureTownModel", "cornerOf", "(I)I"⟩, 37), (⟨"LureTownModel", "waryOf", "(I)I"⟩, 37), (⟨"LureTownModel", "chargeOf", "(I)I"⟩, 37), (⟨"LureTownModel", "isCorner", "(I)Z"⟩, 37), (⟨"LureTownModel", "isTown", "()Z"⟩, 37), (⟨"LureTownModel", "keepsAct", "()V"⟩, 37), (⟨"LureTownModel", "passes", "()I"⟩, 37), (⟨"LureTownModel", "choice", "(I)I"⟩, 37), (⟨"LureTownModel", "homewards", "(I)I"⟩, 37), (⟨"LureTownModel", "homeFrom", "(II)I"⟩, 37), (⟨"LureTownModel", "waysBut", "(III)I"⟩, 37)]
theorem lw_r6 : ∀ q ∈ lw_privs_6, lw_okq q := List.forall_mem_cons.mpr ⟨lw_p80, List.forall_mem_cons.mpr ⟨lw_p81, List.forall_mem_cons.mpr ⟨lw_p82, List.forall_mem_cons.mpr ⟨lw_p83, List.forall_mem_cons.mpr ⟨lw_p84, List.forall_mem_cons.mpr ⟨lw_p85, List.forall_mem_cons.mpr ⟨lw_p86, List.forall_mem_cons.mpr ⟨lw_p87, List.forall_mem_cons.mpr ⟨lw_p88, List.forall_mem_cons.mpr ⟨lw_p89, List.forall_mem_cons.mpr ⟨lw_p90, List.forall_mem_cons.mpr ⟨lw_p91, List.forall_mem_cons.mpr ⟨lw_p92, List.forall_mem_cons.mpr ⟨lw_p93, List.forall_mem_cons.mpr ⟨lw_p94, List.forall_mem_cons.mpr ⟨lw_p95, fun _ h => absurd h List.not_mem_nil⟩⟩⟩⟩⟩⟩⟩⟩⟩⟩⟩⟩⟩⟩⟩⟩
theorem lw_p96 : lw_okq (⟨"LureTownModel", "spread", "(II)I"⟩, 37) := ⟨⟨by decide +kernel, by decide +kernel⟩, List.mem_of_getElem? (i := 1062) (by decide +kernel), List.mem_of_getElem? (i := 1446) (by decide +kernel), List.mem_of_getElem? (i := 1447) (by decide +kernel)⟩
theorem lw_p97 : lw_okq (⟨"LureTownModel", "sumOf", "(II)J"⟩, 37) := ⟨⟨by decide +kernel, by decide +kernel⟩, List.mem_of_getElem? (i := 1062) (by decide +kernel), List.mem_of_getElem? (i := 1450) (by decide +kernel), List.mem_of_getElem? (i := 1451) (by decide +kernel)⟩
theorem lw_p98 : lw_okq (⟨"LureTownModel", "isLaid", "(I)Z"⟩, 37) := ⟨⟨by decide +kernel, by decide +kernel⟩, List.mem_of_getElem? (i := 1062) (by decide +kernel), List.mem_of_getElem? (i := 1454) (by decide +kernel), List.mem_of_getElem? (i := 1455) (by decide +kernel)⟩
theorem lw_p99 : lw_okq (⟨"LureTownModel", "wouldHave", "(II)Z"⟩, 37) := ⟨⟨by decide +kernel, by decide +kernel⟩, List.mem_of_getElem? (i := 1062) (by decide +kernel), List.mem_of_getElem? (i := 1458) (by decide +kernel), List.mem_of_getElem? (i := 1459) (by decide +kernel)⟩
theorem lw_p100 : lw_okq (⟨"LureTownModel", "summedBy", "(I)J"⟩, 37) := ⟨⟨by decide +kernel, by decide +kernel⟩, List.mem_of_getElem? (i := 1062) (by decide +kernel), List.mem_of_getElem? (i := 1462) (by decide +kernel), List.mem_of_getElem? (i := 1463) (by decide +kernel)⟩
theorem lw_p101 : lw_okq (⟨"LureTownModel", "reckons", "(III)J"⟩, 37) := ⟨⟨by decide +kernel, by decide +kernel⟩, List.mem_of_getElem? (i := 1062) (by decide +kernel), List.mem_of_getElem? (i := 1466) (by decide +kernel), List.mem_of_getElem? (i := 1467) (by decide +kernel)⟩
theorem lw_p102 : lw_okq (⟨"LureTownModel", "push", "(J)V"⟩, 37) := ⟨⟨by decide +kernel, by decide +kernel⟩, List.mem_of_getElem? (i := 1062) (by decide +kernel), List.mem_of_getElem? (i := 1470) (by decide +kernel), List.mem_of_getElem? (i := 1471) (by decide +kernel)⟩
theorem lw_p103 : lw_okq (⟨"LureTownModel", "pop", "()J"⟩, 37) := ⟨⟨by decide +kernel, by decide +kernel⟩, List.mem_of_getElem? (i := 1062) (by decide +kernel), List.mem_of_getElem? (i := 1474) (by decide +kernel), List.mem_of_getElem? (i := 1475) (by decide +kernel)⟩
theorem lw_p104 : lw_okq (⟨"LureTownModel", "lureFor", "(I)I"⟩, 37) := ⟨⟨by decide +kernel, by decide +kernel⟩, List.mem_of_getElem? (i := 1062) (by decide +kernel), List.mem_of_getElem? (i := 1481) (by decide +kernel), List.mem_of_getElem? (i := 1482) (by decide +kernel)⟩
theorem lw_p105 : lw_okq (⟨"LureTownModel", "has", "(II)V"⟩, 37) := ⟨⟨by decide +kernel, by decide +kernel⟩, List.mem_of_getElem? (i := 1062) (by decide +kernel), List.mem_of_getElem? (i := 1485) (by decide +kernel), List.mem_of_getElem? (i := 1486) (by decide +kernel)⟩
theorem lw_p106 : lw_okq (⟨"LureTownModel", "keeps", "()V"⟩, 37) := ⟨⟨by decide +kernel, by decide +kernel⟩, List.mem_of_getElem? (i := 1062) (by decide +kernel), List.mem_of_getElem? (i := 1513) (by decide +kernel), List.mem_of_getElem? (i := 1514) (by decide +kernel)⟩
theorem lw_p107 : lw_okq (⟨"LureTownModel", "passesAll", "(I)V"⟩, 37) := ⟨⟨by decide +kernel, by decide +kernel⟩, List.mem_of_getElem? (i := 1062) (by decide +kernel), List.mem_of_getElem? (i := 1517) (by decide +kernel), List.mem_of_getElem? (i := 1518) (by decide +kernel)⟩
theorem lw_p108 : lw_okq (⟨"LureTownModel", "laidOnes", "()I"⟩, 37) := ⟨⟨by decide +kernel, by decide +kernel⟩, List.mem_of_getElem? (i := 1062) (by decide +kernel), List.mem_of_getElem? (i := 1521) (by decide +kernel), List.mem_of_getElem? (i := 1522) (by decide +kernel)⟩
theorem lw_p109 : lw_okq (⟨"LureTownModel", "laysBack", "()V"⟩, 37) := ⟨⟨by decide +kernel, by decide +kernel⟩, List.mem_of_getElem? (i := 1062) (by decide +kernel), List.mem_of_getElem? (i := 1525) (by decide +kernel), List.mem_of_getElem? (i := 1526) (by decide +kernel)⟩
theorem lw_p110 : lw_okq (⟨"LureTownModel", "illCorners", "(I)I"⟩, 37) := ⟨⟨by decide +kernel, by decide +kernel⟩, List.mem_of_getElem? (i := 1062) (by decide +kernel), List.mem_of_getElem? (i := 1551) (by decide +kernel), List.mem_of_getElem? (i := 1552) (by decide +kernel)⟩
theorem lw_p111 : lw_okq (⟨"LureTownModel", "bestFor", "(IIII)I"⟩, 37) := ⟨⟨by decide +kernel, by decide +kernel⟩, List.mem_of_getElem? (i := 1062) (by decide +kernel), List.mem_of_getElem? (i := 1564) (by decide +kernel), List.mem_of_getElem? (i := 1565) (by decide +kernel)⟩
def lw_privs_7 : List (MethodName × Nat) := [(⟨"LureTownModel", "spread", "(II)I"⟩, 37), (⟨"LureTownModel", "sumOf", "(II)J"⟩, 37), (⟨"LureTownModel", "isLaid", "(I)Z"⟩, 37), (⟨"LureTownModel", "wouldHave", "(II)Z"⟩, 37), (⟨"LureTownModel", "summedBy", "(I)J"⟩, 37), (⟨"LureTownModel", "reckons", "(III)J"⟩, 37), (⟨"LureTownModel", "push", "(J)V"⟩, 37), (⟨"LureTownModel", "pop", "()J"⟩, 37), (⟨"LureTownModel", "lureFor", "(I)I"⟩, 37), (⟨"LureTownModel", "has", "(II)V"⟩, 37), (⟨"LureTownModel", "keeps", "()V"⟩, 37), (⟨"LureTownModel", "passesAll", "(I)V"⟩, 37), (⟨"LureTownModel", "laidOnes", "()I"⟩, 37), (⟨"LureTownModel", "laysBack", "()V"⟩, 37), (⟨"LureTownModel", "illCorners", "(I)I"⟩, 37), (⟨"LureTownModel", "bestFor", "(IIII)I"⟩, 37)]
theorem lw_r7 : ∀ q ∈ lw_privs_7, lw_okq q := List.forall_mem_cons.mpr ⟨lw_p96, List.forall_mem_cons.mpr ⟨lw_p97, List.forall_mem_cons.mpr ⟨lw_p98, List.forall_mem_cons.mpr ⟨lw_p99, List.forall_mem_cons.mpr ⟨lw_p100, List.forall_mem_cons.mpr ⟨lw_p101, List.forall_mem_cons.mpr ⟨lw_p102, List.forall_mem_cons.mpr ⟨lw_p103, List.forall_mem_cons.mpr ⟨lw_p104, List.forall_mem_cons.mpr ⟨lw_p105, List.forall_mem_cons.mpr ⟨lw_p106, List.forall_mem_cons.mpr ⟨lw_p107, List.forall_mem_cons.mpr ⟨lw_p108, List.forall_mem_cons.mpr ⟨lw_p109, List.forall_mem_cons.mpr ⟨lw_p110, List.forall_mem_cons.mpr ⟨lw_p111, fun _ h => absurd h List.not_mem_nil⟩⟩⟩⟩⟩⟩⟩⟩⟩⟩⟩⟩⟩⟩⟩⟩
theorem lw_p112 : lw_okq (⟨"LureTownModel", "chargesIn", "(I)I"⟩, 37) := ⟨⟨by decide +kernel, by decide +kernel⟩, List.mem_of_getElem? (i := 1062) (by decide +kernel), List.mem_of_getElem? (i := 1568) (by decide +kernel), List.mem_of_getElem? (i := 1569) (by decide +kernel)⟩
theorem lw_p113 : lw_okq (⟨"LureTownModel", "charges", "()I"⟩, 37) := ⟨⟨by decide +kernel, by decide +kernel⟩, List.mem_of_getElem? (i := 1062) (by decide +kernel), List.mem_of_getElem? (i := 1572) (by decide +kernel), List.mem_of_getElem? (i := 1573) (by decide +kernel)⟩
theorem lw_p114 : lw_okq (⟨"LureTownModel", "covers", "(I)Z"⟩, 37) := ⟨⟨by decide +kernel, by decide +kernel⟩, List.mem_of_getElem? (i := 1062) (by decide +kernel), List.mem_of_getElem? (i := 1587) (by decide +kernel), List.mem_of_getElem? (i := 1588) (by decide +kernel)⟩
theorem lw_p115 : lw_okq (⟨"LureTownModel", "fillsRest", "(IIIII)V"⟩, 37) := ⟨⟨by decide +kernel, by decide +kernel⟩, List.mem_of_getElem? (i := 1062) (by decide +kernel), List.mem_of_getElem? (i := 1596) (by decide +kernel), List.mem_of_getElem? (i := 1597) (by decide +kernel)⟩
theorem lw_p116 : lw_okq (⟨"LureTownModel", "hasThen", "(I)I"⟩, 37) := ⟨⟨by decide +kernel, by decide +kernel⟩, List.mem_of_getElem? (i := 1062) (by decide +kernel), List.mem_of_getElem? (i := 1600) (by decide +kernel), List.mem_of_getElem? (i := 1601) (by decide +kernel)⟩
theorem lw_p117 : lw_okq (⟨"LureTownModel", "isRest", "(II)Z"⟩, 37) := ⟨⟨by decide +kernel, by decide +kernel⟩, List.mem_of_getElem? (i := 1062) (by decide +kernel), List.mem_of_getElem? (i := 1604) (by decide +kernel), List.mem_of_getElem? (i := 1605) (by decide +kernel)⟩
theorem lw_p118 : lw_okq (⟨"LureTownModel", "areAlike", "(II)Z"⟩, 37) := ⟨⟨by decide +kernel, by decide +kernel⟩, List.mem_of_getElem? (i := 1062) (by decide +kernel), List.mem_of_getElem? (i := 1612) (by decide +kernel), List.mem_of_getElem? (i := 1613) (by decide +kernel)⟩
theorem lw_p119 : lw_okq (⟨"LureTownModel", "fillsFits", "(I)V"⟩, 37) := ⟨⟨by decide +kernel, by decide +kernel⟩, List.mem_of_getElem? (i := 1062) (by decide +kernel), List.mem_of_getElem? (i := 1630) (by decide +kernel), List.mem_of_getElem? (i := 1631) (by decide +kernel)⟩
theorem lw_p120 : lw_okq (⟨"LureTownModel", "areAllSo", "(II)Z"⟩, 37) := ⟨⟨by decide +kernel, by decide +kernel⟩, List.mem_of_getElem? (i := 1062) (by decide +kernel), List.mem_of_getElem? (i := 1634) (by decide +kernel), List.mem_of_getElem? (i := 1635) (by decide +kernel)⟩
theorem lw_p121 : lw_okq (⟨"LureTownModel", "areNotesSo", "(I)Z"⟩, 37) := ⟨⟨by decide +kernel, by decide +kernel⟩, List.mem_of_getElem? (i := 1062) (by decide +kernel), List.mem_of_getElem? (i := 1638) (by decide +kernel), List.mem_of_getElem? (i := 1639) (by decide +kernel)⟩
theorem lw_p122 : lw_okq (⟨"LureTownModel", "alikeAt", "(I)I"⟩, 37) := ⟨⟨by decide +kernel, by decide +kernel⟩, List.mem_of_getElem? (i := 1062) (by decide +kernel), List.mem_of_getElem? (i := 1646) (by decide +kernel), List.mem_of_getElem? (i := 1647) (by decide +kernel)⟩
theorem lw_p123 : lw_okq (⟨"LureTownModel", "canBe", "(II)I"⟩, 37) := ⟨⟨by decide +kernel, by decide +kernel⟩, List.mem_of_getElem? (i := 1062) (by decide +kernel), List.mem_of_getElem? (i := 1654) (by decide +kernel), List.mem_of_getElem? (i := 1655) (by decide +kernel)⟩
theorem lw_p124 : lw_okq (⟨"LureTownModel", "draw", "(I)I"⟩, 37) := ⟨⟨by decide +kernel, by decide +kernel⟩, List.mem_of_getElem? (i := 1062) (by decide +kernel), List.mem_of_getElem? (i := 1671) (by decide +kernel), List.mem_of_getElem? (i := 1672) (by decide +kernel)⟩
theorem lw_p125 : lw_okq (⟨"LureTownModel", "homeOnes", "()I"⟩, 37) := ⟨⟨by decide +kernel, by decide +kernel⟩, List.mem_of_getElem? (i := 1062) (by decide +kernel), List.mem_of_getElem? (i := 1683) (by decide +kernel), List.mem_of_getElem? (i := 1684) (by decide +kernel)⟩
def lw_privs_8 : List (MethodName × Nat) := [(⟨"LureTownModel", "chargesIn", "(I)I"⟩, 37), (⟨"LureTownModel", "charges", "()I"⟩, 37), (⟨"LureTownModel", "covers", "(I)Z"⟩, 37), (⟨"LureTownModel", "fillsRest", "(IIIII)V"⟩, 37), (⟨"LureTownModel", "hasThen", "(I)I"⟩, 37), (⟨"LureTownModel", "isRest", "(II)Z"⟩, 37), (⟨"LureTownModel", "areAlike", "(II)Z"⟩, 37), (⟨"LureTownModel", "fillsFits", "(I)V"⟩, 37), (⟨"LureTownModel", "areAllSo", "(II)Z"⟩, 37), (⟨"LureTownModel", "areNotesSo", "(I)Z"⟩, 37), (⟨"LureTownModel", "alikeAt", "(I)I"⟩, 37), (⟨"LureTownModel", "canBe", "(II)I"⟩, 37), (⟨"LureTownModel", "draw", "(I)I"⟩, 37), (⟨"LureTownModel", "homeOnes", "()I"⟩, 37)]
theorem lw_r8 : ∀ q ∈ lw_privs_8, lw_okq q := List.forall_mem_cons.mpr ⟨lw_p112, List.forall_mem_cons.mpr ⟨lw_p113, List.forall_mem_cons.mpr ⟨lw_p114, List.forall_mem_cons.mpr ⟨lw_p115, List.forall_mem_cons.mpr ⟨lw_p116, List.forall_mem_cons.mpr ⟨lw_p117, List.forall_mem_cons.mpr ⟨lw_p118, List.forall_mem_cons.mpr ⟨lw_p119, List.forall_mem_cons.mpr ⟨lw_p120, List.forall_mem_cons.mpr ⟨lw_p121, List.forall_mem_cons.mpr ⟨lw_p122, List.forall_mem_cons.mpr ⟨lw_p123, List.forall_mem_cons.mpr ⟨lw_p124, List.forall_mem_cons.mpr ⟨lw_p125, fun _ h => absurd h List.not_mem_nil⟩⟩⟩⟩⟩⟩⟩⟩⟩⟩⟩⟩⟩⟩
def lw_privs : List (MethodName × Nat) := lw_privs_1 ++ (lw_privs_2 ++ (lw_privs_3 ++ (lw_privs_4 ++ (lw_privs_5 ++ (lw_privs_6 ++ (lw_privs_7 ++ (lw_privs_8)))))))
def lw_tbl : List Cond := k2_sels lw_privs ++ tables_1
theorem lw_privs_ok : ∀ q ∈ lw_privs, lw_okq q := by
  show ∀ q ∈ lw_privs_1 ++ (lw_privs_2 ++ (lw_privs_3 ++ (lw_privs_4 ++ (lw_privs_5 ++ (lw_privs_6 ++ (lw_privs_7 ++ (lw_privs_8))))))), lw_okq q
  exact List.forall_mem_append.mpr ⟨lw_r1, List.forall_mem_append.mpr ⟨lw_r2, List.forall_mem_append.mpr ⟨lw_r3, List.forall_mem_append.mpr ⟨lw_r4, List.forall_mem_append.mpr ⟨lw_r5, List.forall_mem_append.mpr ⟨lw_r6, List.forall_mem_append.mpr ⟨lw_r7, lw_r8⟩⟩⟩⟩⟩⟩⟩
end
section
def RX0 : String := "LureTown$Acts"
def TX0 : u_T := fun k => match k with
  | 0 => ("LureTown$Acts", "size", "I", false)
  | 1 => ("LureTown$Acts", "next", "I", false)
  | _ => ("LureTown$Acts", "before", "[LLureTown$State;", true)
def tyX0 : Nat → FieldType := fun k => match k with
  | 0 => .int
  | 1 => .int
  | _ => .array (.object "LureTown$State")
theorem nmX0 : ∀ a, a < 3 → ∀ b, b < 3 → a ≠ b → (TX0 a).2.1 ≠ (TX0 b).2.1 := by decide +kernel
theorem tyX0_ok : ∀ k, k < 3 → parseFieldDescriptor (TX0 k).2.2.1 = some (tyX0 k) := by decide +kernel
abbrev cX0_init : ByteArray := prog_2_method_1_code
def yX0_init : MethodName := ⟨RX0, "<init>", "()V"⟩
abbrev cX0_forget : ByteArray := prog_2_method_2_code
def yX0_forget : MethodName := ⟨RX0, "forget", "()V"⟩
abbrev cX0_keep : ByteArray := prog_2_method_3_code
def yX0_keep : MethodName := ⟨RX0, "keep", "(LLureTown$State;)V"⟩
abbrev cX0_takeBack : ByteArray := prog_2_method_4_code
def yX0_takeBack : MethodName := ⟨RX0, "takeBack", "(LLureTown$State;)V"⟩
def RX1 : String := "LureTown$Course"
def TX1 : u_T := fun k => match k with
  | 0 => ("LureTown$Course", "state", "LLureTown$State;", true)
  | 1 => ("LureTown$Course", "hadBy", "[I", true)
  | 2 => ("LureTown$Course", "goals", "[I", true)
  | 3 => ("LureTown$Course", "words", "[I", true)
  | 4 => ("LureTown$Course", "town", "LLureTown$Town;", false)
  | _ => ("LureTown$Course", "rule", "LLureTown$Rule;", false)
def tyX1 : Nat → FieldType := fun k => match k with
  | 0 => .object "LureTown$State"
  | 1 => .array .int
  | 2 => .array .int
  | 3 => .array .int
  | 4 => .object "LureTown$Town"
  | _ => .object "LureTown$Rule"
theorem nmX1 : ∀ a, a < 6 → ∀ b, b < 6 → a ≠ b → (TX1 a).2.1 ≠ (TX1 b).2.1 := by decide +kernel
theorem tyX1_ok : ∀ k, k < 6 → parseFieldDescriptor (TX1 k).2.2.1 = some (tyX1 k) := by decide +kernel
abbrev cX1_init : ByteArray := prog_3_method_1_code
def yX1_init : MethodName := ⟨RX1, "<init>", "()V"⟩
abbrev cX1_start : ByteArray := prog_3_method_2_code
def yX1_start : MethodName := ⟨RX1, "start", "(LLureTown$Town;LLureTown$Rule;LLureTown$State;)V"⟩
abbrev cX1_goSteps : ByteArray := prog_3_method_3_code
def yX1_goSteps : MethodName := ⟨RX1, "goSteps", "(I)V"⟩
abbrev cX1_goStep : ByteArray := prog_3_method_4_code
def yX1_goStep : MethodName := ⟨RX1, "goStep", "()I"⟩
abbrev cX1_spring : ByteArray := prog_3_method_5_code
def yX1_spring : MethodName := ⟨RX1, "spring", "(II)V"⟩
abbrev cX1_homeward : ByteArray := prog_3_method_6_code
def yX1_homeward : MethodName := ⟨RX1, "homeward", "(I)I"⟩
abbrev cX1_ruledGoal : ByteArray := prog_3_method_7_code
def yX1_ruledGoal : MethodName := ⟨RX1, "ruledGoal", "(I)I"⟩
abbrev cX1_tellWalker : ByteArray := prog_3_method_8_code
def yX1_tellWalker : MethodName := ⟨RX1, "tellWalker", "(I)V"⟩
abbrev cX1_tellCorner : ByteArray := prog_3_method_9_code
def yX1_tellCorner : MethodName := ⟨RX1, "tellCorner", "(II)V"⟩
abbrev cX1_gainOf : ByteArray := prog_3_method_10_code
def yX1_gainOf : MethodName := ⟨RX1, "gainOf", "(I)I"⟩
def RX2 : String := "LureTown$Moment"
def TX2 : u_T := fun k => match k with
  | 0 => ("LureTown$Moment", "place", "LLureTown$Town;", true)
  | 1 => ("LureTown$Moment", "state", "LLureTown$State;", true)
  | 2 => ("LureTown$Moment", "notes", "LLureTown$Notes;", true)
  | 3 => ("LureTown$Moment", "inForce", "I", false)
  | _ => ("LureTown$Moment", "x", "I", false)
def tyX2 : Nat → FieldType := fun k => match k with
  | 0 => .object "LureTown$Town"
  | 1 => .object "LureTown$State"
  | 2 => .object "LureTown$Notes"
  | 3 => .int
  | _ => .int
theorem nmX2 : ∀ a, a < 5 → ∀ b, b < 5 → a ≠ b → (TX2 a).2.1 ≠ (TX2 b).2.1 := by decide +kernel
theorem tyX2_ok : ∀ k, k < 5 → parseFieldDescriptor (TX2 k).2.2.1 = some (tyX2 k) := by decide +kernel
abbrev cX2_init : ByteArray := prog_4_method_1_code
def yX2_init : MethodName := ⟨RX2, "<init>", "()V"⟩
abbrev cX2_copyFrom : ByteArray := prog_4_method_2_code
def yX2_copyFrom : MethodName := ⟨RX2, "copyFrom", "(LLureTown$Moment;)V"⟩
def RX3 : String := "LureTown$Notes"
def TX3 : u_T := fun k => match k with
  | 0 => ("LureTown$Notes", "size", "I", false)
  | 1 => ("LureTown$Notes", "behind", "[I", true)
  | 2 => ("LureTown$Notes", "walkers", "[I", true)
  | _ => ("LureTown$Notes", "corners", "[I", true)
def tyX3 : Nat → FieldType := fun k => match k with
  | 0 => .int
  | 1 => .array .int
  | 2 => .array .int
  | _ => .array .int
theorem nmX3 : ∀ a, a < 4 → ∀ b, b < 4 → a ≠ b → (TX3 a).2.1 ≠ (TX3 b).2.1 := by decide +kernel
theorem tyX3_ok : ∀ k, k < 4 → parseFieldDescriptor (TX3 k).2.2.1 = some (tyX3 k) := by decide +kernel
abbrev cX3_init : ByteArray := prog_5_method_1_code
def yX3_init : MethodName := ⟨RX3, "<init>", "()V"⟩
abbrev cX3_copyFrom : ByteArray := prog_5_method_2_code
def yX3_copyFrom : MethodName := ⟨RX3, "copyFrom", "(LLureTown$Notes;)V"⟩
abbrev cX3_add : ByteArray := prog_5_method_3_code
def yX3_add : MethodName := ⟨RX3, "add", "(III)Z"⟩
abbrev cX3_lastStep : ByteArray := prog_5_method_4_code
def yX3_lastStep : MethodName := ⟨RX3, "lastStep", "()I"⟩
abbrev cX3_areSoBehind : ByteArray := prog_5_method_5_code
def yX3_areSoBehind : MethodName := ⟨RX3, "areSoBehind", "(ILLureTown$State;)Z"⟩
def RX4 : String := "LureTown$Rule"
def TX4 : u_T := fun k => match k with
  | 0 => ("LureTown$Rule", "clauseCount", "I", false)
  | 1 => ("LureTown$Rule", "code", "[I", true)
  | 2 => ("LureTown$Rule", "codeSize", "I", false)
  | 3 => ("LureTown$Rule", "sumFrom", "[I", true)
  | 4 => ("LureTown$Rule", "testFrom", "[I", true)
  | _ => ("LureTown$Rule", "stack", "[J", true)
def tyX4 : Nat → FieldType := fun k => match k with
  | 0 => .int
  | 1 => .array .int
  | 2 => .int
  | 3 => .array .int
  | 4 => .array .int
  | _ => .array .long
theorem nmX4 : ∀ a, a < 6 → ∀ b, b < 6 → a ≠ b → (TX4 a).2.1 ≠ (TX4 b).2.1 := by decide +kernel
theorem tyX4_ok : ∀ k, k < 6 → parseFieldDescriptor (TX4 k).2.2.1 = some (tyX4 k) := by decide +kernel
abbrev cX4_init : ByteArray := prog_6_method_1_code
def yX4_init : MethodName := ⟨RX4, "<init>", "()V"⟩
abbrev cX4_clear : ByteArray := prog_6_method_2_code
def yX4_clear : MethodName := ⟨RX4, "clear", "()V"⟩
abbrev cX4_write : ByteArray := prog_6_method_3_code
def yX4_write : MethodName := ⟨RX4, "write", "(I)V"⟩
abbrev cX4_beginTest : ByteArray := prog_6_method_4_code
def yX4_beginTest : MethodName := ⟨RX4, "beginTest", "()V"⟩
abbrev cX4_closeClause : ByteArray := prog_6_method_5_code
def yX4_closeClause : MethodName := ⟨RX4, "closeClause", "()V"⟩
abbrev cX4_worth : ByteArray := prog_6_method_6_code
def yX4_worth : MethodName := ⟨RX4, "worth", "([I)J"⟩
abbrev cX4_answer : ByteArray := prog_6_method_7_code
def yX4_answer : MethodName := ⟨RX4, "answer", "(II[I)J"⟩
abbrev cX4_joined : ByteArray := prog_6_method_8_code
def yX4_joined : MethodName := ⟨RX4, "joined", "(IJJ)J"⟩
def RX5 : String := "LureTown$RuleReader"
def TX5 : u_T := fun k => match k with
  | 0 => ("LureTown$RuleReader", "tape", "LLureTown$Tape;", false)
  | 1 => ("LureTown$RuleReader", "held", "[I", true)
  | 2 => ("LureTown$RuleReader", "heldCount", "I", false)
  | 3 => ("LureTown$RuleReader", "depth", "I", false)
  | 4 => ("LureTown$RuleReader", "brackets", "I", false)
  | 5 => ("LureTown$RuleReader", "parts", "I", false)
  | 6 => ("LureTown$RuleReader", "want", "I", false)
  | 7 => ("LureTown$RuleReader", "side", "I", false)
  | _ => ("LureTown$RuleReader", "rule", "LLureTown$Rule;", false)
def tyX5 : Nat → FieldType := fun k => match k with
  | 0 => .object "LureTown$Tape"
  | 1 => .array .int
  | 2 => .int
  | 3 => .int
  | 4 => .int
  | 5 => .int
  | 6 => .int
  | 7 => .int
  | _ => .object "LureTown$Rule"
theorem nmX5 : ∀ a, a < 9 → ∀ b, b < 9 → a ≠ b → (TX5 a).2.1 ≠ (TX5 b).2.1 := by decide +kernel
theorem tyX5_ok : ∀ k, k < 9 → parseFieldDescriptor (TX5 k).2.2.1 = some (tyX5 k) := by decide +kernel
abbrev cX5_init : ByteArray := prog_7_method_1_code
def yX5_init : MethodName := ⟨RX5, "<init>", "()V"⟩
abbrev cX5_read : ByteArray := prog_7_method_2_code
def yX5_read : MethodName := ⟨RX5, "read", "(LLureTown$Tape;LLureTown$Rule;)V"⟩
abbrev cX5_takeToken : ByteArray := prog_7_method_3_code
def yX5_takeToken : MethodName := ⟨RX5, "takeToken", "()V"⟩
abbrev cX5_takeClause : ByteArray := prog_7_method_4_code
def yX5_takeClause : MethodName := ⟨RX5, "takeClause", "()V"⟩
abbrev cX5_takeFact : ByteArray := prog_7_method_5_code
def yX5_takeFact : MethodName := ⟨RX5, "takeFact", "()V"⟩
abbrev cX5_takeValue : ByteArray := prog_7_method_6_code
def yX5_takeValue : MethodName := ⟨RX5, "takeValue", "()V"⟩
abbrev cX5_takePart : ByteArray := prog_7_method_7_code
def yX5_takePart : MethodName := ⟨RX5, "takePart", "()V"⟩
abbrev cX5_takeMore : ByteArray := prog_7_method_8_code
def yX5_takeMore : MethodName := ⟨RX5, "takeMore", "()V"⟩
abbrev cX5_takeOperator : ByteArray := prog_7_method_9_code
def yX5_takeOperator : MethodName := ⟨RX5, "takeOperator", "(II)V"⟩
abbrev cX5_closeBracket : ByteArray := prog_7_method_10_code
def yX5_closeBracket : MethodName := ⟨RX5, "closeBracket", "()V"⟩
abbrev cX5_hold : ByteArray := prog_7_method_11_code
def yX5_hold : MethodName := ⟨RX5, "hold", "(I)V"⟩
abbrev cX5_release : ByteArray := prog_7_method_12_code
def yX5_release : MethodName := ⟨RX5, "release", "(I)V"⟩
abbrev cX5_rankOf : ByteArray := prog_7_method_13_code
def yX5_rankOf : MethodName := ⟨RX5, "rankOf", "(I)I"⟩
def RX6 : String := "LureTown$State"
def TX6 : u_T := fun k => match k with
  | 0 => ("LureTown$State", "walkerCorner", "[I", true)
  | 1 => ("LureTown$State", "walkerHeart", "[I", true)
  | 2 => ("LureTown$State", "walkerWary", "[I", true)
  | 3 => ("LureTown$State", "walkerCharge", "[I", true)
  | 4 => ("LureTown$State", "lureCorner", "[I", true)
  | 5 => ("LureTown$State", "lureKind", "[I", true)
  | 6 => ("LureTown$State", "setBits", "I", false)
  | _ => ("LureTown$State", "steps", "I", false)
def tyX6 : Nat → FieldType := fun k => match k with
  | 0 => .array .int
  | 1 => .array .int
  | 2 => .array .int
  | 3 => .array .int
  | 4 => .array .int
  | 5 => .array .int
  | 6 => .int
  | _ => .int
theorem nmX6 : ∀ a, a < 8 → ∀ b, b < 8 → a ≠ b → (TX6 a).2.1 ≠ (TX6 b).2.1 := by decide +kernel
theorem tyX6_ok : ∀ k, k < 8 → parseFieldDescriptor (TX6 k).2.2.1 = some (tyX6 k) := by decide +kernel
abbrev cX6_init : ByteArray := prog_8_method_1_code
def yX6_init : MethodName := ⟨RX6, "<init>", "()V"⟩
abbrev cX6_copyFrom : ByteArray := prog_8_method_2_code
def yX6_copyFrom : MethodName := ⟨RX6, "copyFrom", "(LLureTown$State;)V"⟩
abbrev cX6_isSet : ByteArray := prog_8_method_3_code
def yX6_isSet : MethodName := ⟨RX6, "isSet", "(I)Z"⟩
abbrev cX6_setAgain : ByteArray := prog_8_method_4_code
def yX6_setAgain : MethodName := ⟨RX6, "setAgain", "(I)V"⟩
abbrev cX6_allCharges : ByteArray := prog_8_method_5_code
def yX6_allCharges : MethodName := ⟨RX6, "allCharges", "(I)I"⟩
def RX7 : String := "LureTown$Tape"
def TX7 : u_T := fun k => match k with
  | 0 => ("LureTown$Tape", "bytes", "[B", true)
  | 1 => ("LureTown$Tape", "size", "I", false)
  | 2 => ("LureTown$Tape", "fault", "I", false)
  | 3 => ("LureTown$Tape", "token", "I", false)
  | 4 => ("LureTown$Tape", "number", "I", false)
  | 5 => ("LureTown$Tape", "start", "I", false)
  | _ => ("LureTown$Tape", "reached", "I", false)
def tyX7 : Nat → FieldType := fun k => match k with
  | 0 => .array .byte
  | 1 => .int
  | 2 => .int
  | 3 => .int
  | 4 => .int
  | 5 => .int
  | _ => .int
theorem nmX7 : ∀ a, a < 7 → ∀ b, b < 7 → a ≠ b → (TX7 a).2.1 ≠ (TX7 b).2.1 := by decide +kernel
theorem tyX7_ok : ∀ k, k < 7 → parseFieldDescriptor (TX7 k).2.2.1 = some (tyX7 k) := by decide +kernel
abbrev cX7_init : ByteArray := prog_9_method_1_code
def yX7_init : MethodName := ⟨RX7, "<init>", "()V"⟩
abbrev cX7_append : ByteArray := prog_9_method_2_code
def yX7_append : MethodName := ⟨RX7, "append", "(I)V"⟩
abbrev cX7_rewind : ByteArray := prog_9_method_3_code
def yX7_rewind : MethodName := ⟨RX7, "rewind", "()V"⟩
abbrev cX7_blame : ByteArray := prog_9_method_4_code
def yX7_blame : MethodName := ⟨RX7, "blame", "(I)V"⟩
abbrev cX7_readToken : ByteArray := prog_9_method_5_code
def yX7_readToken : MethodName := ⟨RX7, "readToken", "()V"⟩
abbrev cX7_digitAt : ByteArray := prog_9_method_6_code
def yX7_digitAt : MethodName := ⟨RX7, "digitAt", "(I)Z"⟩
abbrev cX7_letterAt : ByteArray := prog_9_method_7_code
def yX7_letterAt : MethodName := ⟨RX7, "letterAt", "(I)Z"⟩
abbrev cX7_readNumber : ByteArray := prog_9_method_8_code
def yX7_readNumber : MethodName := ⟨RX7, "readNumber", "()V"⟩
abbrev cX7_readWord : ByteArray := prog_9_method_9_code
def yX7_readWord : MethodName := ⟨RX7, "readWord", "()V"⟩
abbrev cX7_isWordAt : ByteArray := prog_9_method_10_code
def yX7_isWordAt : MethodName := ⟨RX7, "isWordAt", "(I)Z"⟩
abbrev cX7_readSign : ByteArray := prog_9_method_11_code
def yX7_readSign : MethodName := ⟨RX7, "readSign", "()V"⟩
def RX8 : String := "LureTown$Town"
def TX8 : u_T := fun k => match k with
  | 0 => ("LureTown$Town", "cornerCount", "I", false)
  | 1 => ("LureTown$Town", "wayCount", "I", false)
  | 2 => ("LureTown$Town", "lureCount", "I", false)
  | 3 => ("LureTown$Town", "walkerCount", "I", false)
  | 4 => ("LureTown$Town", "joined", "[I", true)
  | 5 => ("LureTown$Town", "lureGuile", "[I", true)
  | 6 => ("LureTown$Town", "lureCharge", "[I", true)
  | 7 => ("LureTown$Town", "walkerHome", "[I", true)
  | 8 => ("LureTown$Town", "told", "LLureTown$State;", true)
  | _ => ("LureTown$Town", "apart", "[I", true)
def tyX8 : Nat → FieldType := fun k => match k with
  | 0 => .int
  | 1 => .int
  | 2 => .int
  | 3 => .int
  | 4 => .array .int
  | 5 => .array .int
  | 6 => .array .int
  | 7 => .array .int
  | 8 => .object "LureTown$State"
  | _ => .array .int
theorem nmX8 : ∀ a, a < 10 → ∀ b, b < 10 → a ≠ b → (TX8 a).2.1 ≠ (TX8 b).2.1 := by decide +kernel
theorem tyX8_ok : ∀ k, k < 10 → parseFieldDescriptor (TX8 k).2.2.1 = some (tyX8 k) := by decide +kernel
abbrev cX8_init : ByteArray := prog_10_method_1_code
def yX8_init : MethodName := ⟨RX8, "<init>", "()V"⟩
abbrev cX8_clear : ByteArray := prog_10_method_2_code
def yX8_clear : MethodName := ⟨RX8, "clear", "()V"⟩
abbrev cX8_copyFrom : ByteArray := prog_10_method_3_code
def yX8_copyFrom : MethodName := ⟨RX8, "copyFrom", "(LLureTown$Town;)V"⟩
abbrev cX8_join : ByteArray := prog_10_method_4_code
def yX8_join : MethodName := ⟨RX8, "join", "(II)V"⟩
abbrev cX8_addLure : ByteArray := prog_10_method_5_code
def yX8_addLure : MethodName := ⟨RX8, "addLure", "(IIII)V"⟩
abbrev cX8_addWalker : ByteArray := prog_10_method_6_code
def yX8_addWalker : MethodName := ⟨RX8, "addWalker", "(IIII)V"⟩
abbrev cX8_measure : ByteArray := prog_10_method_7_code
def yX8_measure : MethodName := ⟨RX8, "measure", "()V"⟩
abbrev cX8_waysHome : ByteArray := prog_10_method_8_code
def yX8_waysHome : MethodName := ⟨RX8, "waysHome", "(II)I"⟩
abbrev cX8_waysWithin : ByteArray := prog_10_method_9_code
def yX8_waysWithin : MethodName := ⟨RX8, "waysWithin", "(III)I"⟩
abbrev cX8_holdsAllWays : ByteArray := prog_10_method_10_code
def yX8_holdsAllWays : MethodName := ⟨RX8, "holdsAllWays", "(I)Z"⟩
abbrev cX8_wouldHave : ByteArray := prog_10_method_11_code
def yX8_wouldHave : MethodName := ⟨RX8, "wouldHave", "(LLureTown$State;II)Z"⟩
abbrev cX8_lureThatHas : ByteArray := prog_10_method_12_code
def yX8_lureThatHas : MethodName := ⟨RX8, "lureThatHas", "(LLureTown$State;II)I"⟩
def RX9 : String := "LureTown$TownReader"
def TX9 : u_T := fun k => match k with
  | 0 => ("LureTown$TownReader", "tape", "LLureTown$Tape;", false)
  | 1 => ("LureTown$TownReader", "town", "LLureTown$Town;", false)
  | _ => ("LureTown$TownReader", "numbers", "[I", true)
def tyX9 : Nat → FieldType := fun k => match k with
  | 0 => .object "LureTown$Tape"
  | 1 => .object "LureTown$Town"
  | _ => .array .int
theorem nmX9 : ∀ a, a < 3 → ∀ b, b < 3 → a ≠ b → (TX9 a).2.1 ≠ (TX9 b).2.1 := by decide +kernel
theorem tyX9_ok : ∀ k, k < 3 → parseFieldDescriptor (TX9 k).2.2.1 = some (tyX9 k) := by decide +kernel
abbrev cX9_init : ByteArray := prog_11_method_1_code
def yX9_init : MethodName := ⟨RX9, "<init>", "()V"⟩
abbrev cX9_read : ByteArray := prog_11_method_2_code
def yX9_read : MethodName := ⟨RX9, "read", "(LLureTown$Tape;LLureTown$Town;)V"⟩
abbrev cX9_readClause : ByteArray := prog_11_method_3_code
def yX9_readClause : MethodName := ⟨RX9, "readClause", "(I)V"⟩
abbrev cX9_isTooMany : ByteArray := prog_11_method_4_code
def yX9_isTooMany : MethodName := ⟨RX9, "isTooMany", "(II)Z"⟩
abbrev cX9_readNumber : ByteArray := prog_11_method_5_code
def yX9_readNumber : MethodName := ⟨RX9, "readNumber", "(III)V"⟩
abbrev cX9_leastOf : ByteArray := prog_11_method_6_code
def yX9_leastOf : MethodName := ⟨RX9, "leastOf", "(II)I"⟩
abbrev cX9_mostOf : ByteArray := prog_11_method_7_code
def yX9_mostOf : MethodName := ⟨RX9, "mostOf", "(II)I"⟩
abbrev cX9_tellTown : ByteArray := prog_11_method_8_code
def yX9_tellTown : MethodName := ⟨RX9, "tellTown", "(I)V"⟩
abbrev cX9_readClauseEnd : ByteArray := prog_11_method_9_code
def yX9_readClauseEnd : MethodName := ⟨RX9, "readClauseEnd", "()V"⟩
def RX10 : String := "LureTown"
def TX10 : u_T := fun k => match k with
  | 0 => ("LureTown", "tape", "LLureTown$Tape;", true)
  | 1 => ("LureTown", "townReader", "LLureTown$TownReader;", true)
  | 2 => ("LureTown", "ruleReader", "LLureTown$RuleReader;", true)
  | 3 => ("LureTown", "draft", "LLureTown$Town;", true)
  | 4 => ("LureTown", "rules", "[LLureTown$Rule;", true)
  | 5 => ("LureTown", "ruleCount", "I", false)
  | 6 => ("LureTown", "noRule", "LLureTown$Rule;", true)
  | 7 => ("LureTown", "now", "LLureTown$Moment;", true)
  | 8 => ("LureTown", "images", "[LLureTown$Moment;", true)
  | 9 => ("LureTown", "imagesMade", "I", false)
  | 10 => ("LureTown", "acts", "LLureTown$Acts;", true)
  | 11 => ("LureTown", "course", "LLureTown$Course;", true)
  | 12 => ("LureTown", "altered", "LLureTown$State;", true)
  | 13 => ("LureTown", "tally", "[I", true)
  | 14 => ("LureTown", "marks", "[I", true)
  | 15 => ("LureTown", "gains", "[I", true)
  | _ => ("LureTown", "otherGains", "[I", true)
def tyX10 : Nat → FieldType := fun k => match k with
  | 0 => .object "LureTown$Tape"
  | 1 => .object "LureTown$TownReader"
  | 2 => .object "LureTown$RuleReader"
  | 3 => .object "LureTown$Town"
  | 4 => .array (.object "LureTown$Rule")
  | 5 => .int
  | 6 => .object "LureTown$Rule"
  | 7 => .object "LureTown$Moment"
  | 8 => .array (.object "LureTown$Moment")
  | 9 => .int
  | 10 => .object "LureTown$Acts"
  | 11 => .object "LureTown$Course"
  | 12 => .object "LureTown$State"
  | 13 => .array .int
  | 14 => .array .int
  | 15 => .array .int
  | _ => .array .int
theorem nmX10 : ∀ a, a < 17 → ∀ b, b < 17 → a ≠ b → (TX10 a).2.1 ≠ (TX10 b).2.1 := by decide +kernel
theorem tyX10_ok : ∀ k, k < 17 → parseFieldDescriptor (TX10 k).2.2.1 = some (tyX10 k) := by decide +kernel
abbrev cX10_init : ByteArray := prog_1_method_1_code
def yX10_init : MethodName := ⟨RX10, "<init>", "()V"⟩
abbrev cX10_feed : ByteArray := prog_1_method_2_code
def yX10_feed : MethodName := ⟨RX10, "feed", "(IIIII)I"⟩
abbrev cX10_end : ByteArray := prog_1_method_3_code
def yX10_end : MethodName := ⟨RX10, "end", "(I)I"⟩
abbrev cX10_town : ByteArray := prog_1_method_4_code
def yX10_town : MethodName := ⟨RX10, "town", "()I"⟩
abbrev cX10_rule : ByteArray := prog_1_method_5_code
def yX10_rule : MethodName := ⟨RX10, "rule", "()I"⟩
abbrev cX10_force : ByteArray := prog_1_method_6_code
def yX10_force : MethodName := ⟨RX10, "force", "(I)I"⟩
abbrev cX10_lure : ByteArray := prog_1_method_7_code
def yX10_lure : MethodName := ⟨RX10, "lure", "(II)I"⟩
abbrev cX10_walker : ByteArray := prog_1_method_8_code
def yX10_walker : MethodName := ⟨RX10, "walker", "(II)I"⟩
abbrev cX10_ways : ByteArray := prog_1_method_9_code
def yX10_ways : MethodName := ⟨RX10, "ways", "(I)I"⟩
abbrev cX10_count : ByteArray := prog_1_method_10_code
def yX10_count : MethodName := ⟨RX10, "count", "(I)I"⟩
abbrev cX10_walkersAtHome : ByteArray := prog_1_method_11_code
def yX10_walkersAtHome : MethodName := ⟨RX10, "walkersAtHome", "()I"⟩
abbrev cX10_step : ByteArray := prog_1_method_12_code
def yX10_step : MethodName := ⟨RX10, "step", "()I"⟩
abbrev cX10_set : ByteArray := prog_1_method_13_code
def yX10_set : MethodName := ⟨RX10, "set", "(II)I"⟩
abbrev cX10_move : ByteArray := prog_1_method_14_code
def yX10_move : MethodName := ⟨RX10, "move", "(II)I"⟩
abbrev cX10_bait : ByteArray := prog_1_method_15_code
def yX10_bait : MethodName := ⟨RX10, "bait", "(II)I"⟩
abbrev cX10_calm : ByteArray := prog_1_method_16_code
def yX10_calm : MethodName := ⟨RX10, "calm", "(II)I"⟩
abbrev cX10_undo : ByteArray := prog_1_method_17_code
def yX10_undo : MethodName := ⟨RX10, "undo", "()I"⟩
abbrev cX10_ahead : ByteArray := prog_1_method_18_code
def yX10_ahead : MethodName := ⟨RX10, "ahead", "(III)I"⟩
abbrev cX10_had : ByteArray := prog_1_method_19_code
def yX10_had : MethodName := ⟨RX10, "had", "(II)I"⟩
abbrev cX10_first : ByteArray := prog_1_method_20_code
def yX10_first : MethodName := ⟨RX10, "first", "(I)I"⟩
abbrev cX10_goTillHad : ByteArray := prog_1_method_21_code
def yX10_goTillHad : MethodName := ⟨RX10, "goTillHad", "(I)I"⟩
abbrev cX10_ring : ByteArray := prog_1_method_22_code
def yX10_ring : MethodName := ⟨RX10, "ring", "(I)I"⟩
abbrev cX10_markSteps : ByteArray := prog_1_method_23_code
def yX10_markSteps : MethodName := ⟨RX10, "markSteps", "()V"⟩
abbrev cX10_nights : ByteArray := prog_1_method_24_code
def yX10_nights : MethodName := ⟨RX10, "nights", "(IIII)I"⟩
abbrev cX10_goDrawn : ByteArray := prog_1_method_25_code
def yX10_goDrawn : MethodName := ⟨RX10, "goDrawn", "(IIJ)J"⟩
abbrev cX10_drawn : ByteArray := prog_1_method_26_code
def yX10_drawn : MethodName := ⟨RX10, "drawn", "(J)J"⟩
abbrev cX10_seed : ByteArray := prog_1_method_27_code
def yX10_seed : MethodName := ⟨RX10, "seed", "(I)I"⟩
abbrev cX10_far : ByteArray := prog_1_method_28_code
def yX10_far : MethodName := ⟨RX10, "far", "(I)I"⟩
abbrev cX10_safe : ByteArray := prog_1_method_29_code
def yX10_safe : MethodName := ⟨RX10, "safe", "(I)I"⟩
abbrev cX10_stuck : ByteArray := prog_1_method_30_code
def yX10_stuck : MethodName := ⟨RX10, "stuck", "(I)I"⟩
abbrev cX10_cover : ByteArray := prog_1_method_31_code
def yX10_cover : MethodName := ⟨RX10, "cover", "(I)I"⟩
abbrev cX10_best : ByteArray := prog_1_method_32_code
def yX10_best : MethodName := ⟨RX10, "best", "(III)I"⟩
abbrev cX10_kind : ByteArray := prog_1_method_33_code
def yX10_kind : MethodName := ⟨RX10, "kind", "(III)I"⟩
abbrev cX10_bestOf : ByteArray := prog_1_method_34_code
def yX10_bestOf : MethodName := ⟨RX10, "bestOf", "([IIIII)I"⟩
abbrev cX10_rests : ByteArray := prog_1_method_35_code
def yX10_rests : MethodName := ⟨RX10, "rests", "(IIII)I"⟩
abbrev cX10_weighTwos : ByteArray := prog_1_method_36_code
def yX10_weighTwos : MethodName := ⟨RX10, "weighTwos", "(III)V"⟩
abbrev cX10_isRest : ByteArray := prog_1_method_37_code
def yX10_isRest : MethodName := ⟨RX10, "isRest", "(II)Z"⟩
abbrev cX10_pence : ByteArray := prog_1_method_38_code
def yX10_pence : MethodName := ⟨RX10, "pence", "(II)I"⟩
abbrev cX10_note : ByteArray := prog_1_method_39_code
def yX10_note : MethodName := ⟨RX10, "note", "(III)I"⟩
abbrev cX10_hearts : ByteArray := prog_1_method_40_code
def yX10_hearts : MethodName := ⟨RX10, "hearts", "(I)I"⟩
abbrev cX10_waries : ByteArray := prog_1_method_41_code
def yX10_waries : MethodName := ⟨RX10, "waries", "(I)I"⟩
abbrev cX10_choicesThatAreSo : ByteArray := prog_1_method_42_code
def yX10_choicesThatAreSo : MethodName := ⟨RX10, "choicesThatAreSo", "([III)I"⟩
abbrev cX10_ruled : ByteArray := prog_1_method_43_code
def yX10_ruled : MethodName := ⟨RX10, "ruled", "(I)I"⟩
abbrev cX10_look : ByteArray := prog_1_method_44_code
def yX10_look : MethodName := ⟨RX10, "look", "(II)I"⟩
abbrev cX10_tallyRules : ByteArray := prog_1_method_45_code
def yX10_tallyRules : MethodName := ⟨RX10, "tallyRules", "(I)I"⟩
abbrev cX10_mostAlike : ByteArray := prog_1_method_46_code
def yX10_mostAlike : MethodName := ⟨RX10, "mostAlike", "(I)I"⟩
abbrev cX10_notesAreSo : ByteArray := prog_1_method_47_code
def yX10_notesAreSo : MethodName := ⟨RX10, "notesAreSo", "(LLureTown$Rule;LLureTown$State;)Z"⟩
abbrev cX10_image : ByteArray := prog_1_method_48_code
def yX10_image : MethodName := ⟨RX10, "image", "(I)I"⟩
abbrev cX10_back : ByteArray := prog_1_method_49_code
def yX10_back : MethodName := ⟨RX10, "back", "(I)I"⟩
abbrev cX10_hasTown : ByteArray := prog_1_method_50_code
def yX10_hasTown : MethodName := ⟨RX10, "hasTown", "()Z"⟩
abbrev cX10_hasCorner : ByteArray := prog_1_method_51_code
def yX10_hasCorner : MethodName := ⟨RX10, "hasCorner", "(I)Z"⟩
abbrev cX10_hasLure : ByteArray := prog_1_method_52_code
def yX10_hasLure : MethodName := ⟨RX10, "hasLure", "(I)Z"⟩
abbrev cX10_hasSetLure : ByteArray := prog_1_method_53_code
def yX10_hasSetLure : MethodName := ⟨RX10, "hasSetLure", "(I)Z"⟩
abbrev cX10_hasWalker : ByteArray := prog_1_method_54_code
def yX10_hasWalker : MethodName := ⟨RX10, "hasWalker", "(I)Z"⟩
abbrev cX10_ruleOf : ByteArray := prog_1_method_55_code
def yX10_ruleOf : MethodName := ⟨RX10, "ruleOf", "(I)LLureTown$Rule;"⟩
abbrev cX10_inForce : ByteArray := prog_1_method_56_code
def yX10_inForce : MethodName := ⟨RX10, "inForce", "()LLureTown$Rule;"⟩
abbrev cX10_startNow : ByteArray := prog_1_method_57_code
def yX10_startNow : MethodName := ⟨RX10, "startNow", "()V"⟩
def RX11 : String := "LureTownModel"
def TX11 : u_T := fun k => match k with
  | 0 => ("LureTownModel", "tape", "[B", true)
  | 1 => ("LureTownModel", "taped", "I", false)
  | 2 => ("LureTownModel", "rules", "I", false)
  | 3 => ("LureTownModel", "sign", "[I", true)
  | 4 => ("LureTownModel", "length", "[I", true)
  | 5 => ("LureTownModel", "clause", "[I", true)
  | 6 => ("LureTownModel", "clauses", "[I", true)
  | 7 => ("LureTownModel", "read", "[I", true)
  | 8 => ("LureTownModel", "next", "I", false)
  | 9 => ("LureTownModel", "wrong", "I", false)
  | 10 => ("LureTownModel", "number", "I", false)
  | 11 => ("LureTownModel", "text", "I", false)
  | 12 => ("LureTownModel", "made", "I", false)
  | 13 => ("LureTownModel", "deep", "I", false)
  | 14 => ("LureTownModel", "lines", "I", false)
  | 15 => ("LureTownModel", "open", "[I", true)
  | 16 => ("LureTownModel", "opened", "I", false)
  | 17 => ("LureTownModel", "stack", "[J", true)
  | 18 => ("LureTownModel", "top", "I", false)
  | 19 => ("LureTownModel", "word", "[J", true)
  | 20 => ("LureTownModel", "said", "[I", true)
  | 21 => ("LureTownModel", "force", "I", false)
  | 22 => ("LureTownModel", "x", "I", false)
  | 23 => ("LureTownModel", "goesTo", "[I", true)
  | 24 => ("LureTownModel", "hadBy", "[I", true)
  | 25 => ("LureTownModel", "wasSaid", "[I", true)
  | 26 => ("LureTownModel", "undone", "I", false)
  | 27 => ("LureTownModel", "kept", "[I", true)
  | 28 => ("LureTownModel", "hasBy", "[I", true)
  | 29 => ("LureTownModel", "standsThen", "[I", true)
  | 30 => ("LureTownModel", "isFit", "[Z", true)
  | 31 => ("LureTownModel", "cornerThen", "[I", true)
  | 32 => ("LureTownModel", "drawX", "J", false)
  | 33 => ("LureTownModel", "images", "[I", true)
  | 34 => ("LureTownModel", "imageForce", "[I", true)
  | 35 => ("LureTownModel", "imageX", "[I", true)
  | _ => ("LureTownModel", "isMade", "[Z", true)
def tyX11 : Nat → FieldType := fun k => match k with
  | 0 => .array .byte
  | 1 => .int
  | 2 => .int
  | 3 => .array .int
  | 4 => .array .int
  | 5 => .array .int
  | 6 => .array .int
  | 7 => .array .int
  | 8 => .int
  | 9 => .int
  | 10 => .int
  | 11 => .int
  | 12 => .int
  | 13 => .int
  | 14 => .int
  | 15 => .array .int
  | 16 => .int
  | 17 => .array .long
  | 18 => .int
  | 19 => .array .long
  | 20 => .array .int
  | 21 => .int
  | 22 => .int
  | 23 => .array .int
  | 24 => .array .int
  | 25 => .array .int
  | 26 => .int
  | 27 => .array .int
  | 28 => .array .int
  | 29 => .array .int
  | 30 => .array .boolean
  | 31 => .array .int
  | 32 => .long
  | 33 => .array .int
  | 34 => .array .int
  | 35 => .array .int
  | _ => .array .boolean
theorem nmX11 : ∀ a, a < 37 → ∀ b, b < 37 → a ≠ b → (TX11 a).2.1 ≠ (TX11 b).2.1 := by decide +kernel
theorem tyX11_ok : ∀ k, k < 37 → parseFieldDescriptor (TX11 k).2.2.1 = some (tyX11 k) := by decide +kernel
abbrev cX11_init : ByteArray := prog_13_method_1_code
def yX11_init : MethodName := ⟨RX11, "<init>", "()V"⟩
abbrev cX11_in : ByteArray := prog_13_method_2_code
def yX11_in : MethodName := ⟨RX11, "in", "(JJJ)Z"⟩
abbrev cX11_isOf : ByteArray := prog_13_method_3_code
def yX11_isOf : MethodName := ⟨RX11, "isOf", "(II)Z"⟩
abbrev cX11_bits : ByteArray := prog_13_method_4_code
def yX11_bits : MethodName := ⟨RX11, "bits", "(I)I"⟩
abbrev cX11_four : ByteArray := prog_13_method_5_code
def yX11_four : MethodName := ⟨RX11, "four", "(I)V"⟩
abbrev cX11_feed : ByteArray := prog_13_method_6_code
def yX11_feed : MethodName := ⟨RX11, "feed", "(IIIII)I"⟩
abbrev cX11_end : ByteArray := prog_13_method_7_code
def yX11_end : MethodName := ⟨RX11, "end", "(I)I"⟩
abbrev cX11_fails : ByteArray := prog_13_method_8_code
def yX11_fails : MethodName := ⟨RX11, "fails", "(II)Z"⟩
abbrev cX11_see : ByteArray := prog_13_method_9_code
def yX11_see : MethodName := ⟨RX11, "see", "()I"⟩
abbrev cX11_isDigit : ByteArray := prog_13_method_10_code
def yX11_isDigit : MethodName := ⟨RX11, "isDigit", "(I)Z"⟩
abbrev cX11_isLetter : ByteArray := prog_13_method_11_code
def yX11_isLetter : MethodName := ⟨RX11, "isLetter", "(I)Z"⟩
abbrev cX11_isWord : ByteArray := prog_13_method_12_code
def yX11_isWord : MethodName := ⟨RX11, "isWord", "(J)Z"⟩
abbrev cX11_passWord : ByteArray := prog_13_method_13_code
def yX11_passWord : MethodName := ⟨RX11, "passWord", "()V"⟩
abbrev cX11_takesWord : ByteArray := prog_13_method_14_code
def yX11_takesWord : MethodName := ⟨RX11, "takesWord", "(J)Z"⟩
abbrev cX11_numberHere : ByteArray := prog_13_method_15_code
def yX11_numberHere : MethodName := ⟨RX11, "numberHere", "(II)Z"⟩
abbrev cX11_wordHere : ByteArray := prog_13_method_16_code
def yX11_wordHere : MethodName := ⟨RX11, "wordHere", "()I"⟩
abbrev cX11_puts : ByteArray := prog_13_method_17_code
def yX11_puts : MethodName := ⟨RX11, "puts", "(II)V"⟩
abbrev cX11_makes : ByteArray := prog_13_method_18_code
def yX11_makes : MethodName := ⟨RX11, "makes", "(I)Z"⟩
abbrev cX11_opens : ByteArray := prog_13_method_19_code
def yX11_opens : MethodName := ⟨RX11, "opens", "(I)Z"⟩
abbrev cX11_strength : ByteArray := prog_13_method_20_code
def yX11_strength : MethodName := ⟨RX11, "strength", "(I)I"⟩
abbrev cX11_layDown : ByteArray := prog_13_method_21_code
def yX11_layDown : MethodName := ⟨RX11, "layDown", "(I)V"⟩
abbrev cX11_value : ByteArray := prog_13_method_22_code
def yX11_value : MethodName := ⟨RX11, "value", "()Z"⟩
abbrev cX11_term : ByteArray := prog_13_method_23_code
def yX11_term : MethodName := ⟨RX11, "term", "()Z"⟩
abbrev cX11_sum : ByteArray := prog_13_method_24_code
def yX11_sum : MethodName := ⟨RX11, "sum", "()Z"⟩
abbrev cX11_compare : ByteArray := prog_13_method_25_code
def yX11_compare : MethodName := ⟨RX11, "compare", "()Z"⟩
abbrev cX11_fact : ByteArray := prog_13_method_26_code
def yX11_fact : MethodName := ⟨RX11, "fact", "()Z"⟩
abbrev cX11_isInside : ByteArray := prog_13_method_27_code
def yX11_isInside : MethodName := ⟨RX11, "isInside", "()Z"⟩
abbrev cX11_closes : ByteArray := prog_13_method_28_code
def yX11_closes : MethodName := ⟨RX11, "closes", "()V"⟩
abbrev cX11_tested : ByteArray := prog_13_method_29_code
def yX11_tested : MethodName := ⟨RX11, "tested", "()Z"⟩
abbrev cX11_isGoHere : ByteArray := prog_13_method_30_code
def yX11_isGoHere : MethodName := ⟨RX11, "isGoHere", "()Z"⟩
abbrev cX11_cellHere : ByteArray := prog_13_method_31_code
def yX11_cellHere : MethodName := ⟨RX11, "cellHere", "(III)Z"⟩
abbrev cX11_isTownHere : ByteArray := prog_13_method_32_code
def yX11_isTownHere : MethodName := ⟨RX11, "isTownHere", "(I)Z"⟩
abbrev cX11_isWayHere : ByteArray := prog_13_method_33_code
def yX11_isWayHere : MethodName := ⟨RX11, "isWayHere", "()Z"⟩
abbrev cX11_isLureHere : ByteArray := prog_13_method_34_code
def yX11_isLureHere : MethodName := ⟨RX11, "isLureHere", "(I)Z"⟩
abbrev cX11_isWalkerHere : ByteArray := prog_13_method_35_code
def yX11_isWalkerHere : MethodName := ⟨RX11, "isWalkerHere", "(I)Z"⟩
abbrev cX11_townLineHere : ByteArray := prog_13_method_36_code
def yX11_townLineHere : MethodName := ⟨RX11, "townLineHere", "(I)Z"⟩
abbrev cX11_isTownWord : ByteArray := prog_13_method_37_code
def yX11_isTownWord : MethodName := ⟨RX11, "isTownWord", "()Z"⟩
abbrev cX11_clauseHere : ByteArray := prog_13_method_38_code
def yX11_clauseHere : MethodName := ⟨RX11, "clauseHere", "()Z"⟩
abbrev cX11_readsAll : ByteArray := prog_13_method_39_code
def yX11_readsAll : MethodName := ⟨RX11, "readsAll", "()Z"⟩
abbrev cX11_rule : ByteArray := prog_13_method_40_code
def yX11_rule : MethodName := ⟨RX11, "rule", "()I"⟩
abbrev cX11_town : ByteArray := prog_13_method_41_code
def yX11_town : MethodName := ⟨RX11, "town", "()I"⟩
abbrev cX11_isRule : ByteArray := prog_13_method_42_code
def yX11_isRule : MethodName := ⟨RX11, "isRule", "(I)Z"⟩
abbrev cX11_push : ByteArray := prog_13_method_43_code
def yX11_push : MethodName := ⟨RX11, "push", "(J)V"⟩
abbrev cX11_pop : ByteArray := prog_13_method_44_code
def yX11_pop : MethodName := ⟨RX11, "pop", "()J"⟩
abbrev cX11_one : ByteArray := prog_13_method_45_code
def yX11_one : MethodName := ⟨RX11, "one", "(IJJ)J"⟩
abbrev cX11_reckons : ByteArray := prog_13_method_46_code
def yX11_reckons : MethodName := ⟨RX11, "reckons", "(III)J"⟩
abbrev cX11_isTown : ByteArray := prog_13_method_47_code
def yX11_isTown : MethodName := ⟨RX11, "isTown", "()Z"⟩
abbrev cX11_isCorner : ByteArray := prog_13_method_48_code
def yX11_isCorner : MethodName := ⟨RX11, "isCorner", "(I)Z"⟩
abbrev cX11_isLure : ByteArray := prog_13_method_49_code
def yX11_isLure : MethodName := ⟨RX11, "isLure", "(I)Z"⟩
abbrev cX11_isWalker : ByteArray := prog_13_method_50_code
def yX11_isWalker : MethodName := ⟨RX11, "isWalker", "(I)Z"⟩
abbrev cX11_lureAt : ByteArray := prog_13_method_51_code
def yX11_lureAt : MethodName := ⟨RX11, "lureAt", "(I)I"⟩
abbrev cX11_kindOf : ByteArray := prog_13_method_52_code
def yX11_kindOf : MethodName := ⟨RX11, "kindOf", "(I)I"⟩
abbrev cX11_isLaid : ByteArray := prog_13_method_53_code
def yX11_isLaid : MethodName := ⟨RX11, "isLaid", "(I)Z"⟩
abbrev cX11_cornerOf : ByteArray := prog_13_method_54_code
def yX11_cornerOf : MethodName := ⟨RX11, "cornerOf", "(I)I"⟩
abbrev cX11_waryOf : ByteArray := prog_13_method_55_code
def yX11_waryOf : MethodName := ⟨RX11, "waryOf", "(I)I"⟩
abbrev cX11_chargeOf : ByteArray := prog_13_method_56_code
def yX11_chargeOf : MethodName := ⟨RX11, "chargeOf", "(I)I"⟩
abbrev cX11_laidOnes : ByteArray := prog_13_method_57_code
def yX11_laidOnes : MethodName := ⟨RX11, "laidOnes", "()I"⟩
abbrev cX11_homeOnes : ByteArray := prog_13_method_58_code
def yX11_homeOnes : MethodName := ⟨RX11, "homeOnes", "()I"⟩
abbrev cX11_charges : ByteArray := prog_13_method_59_code
def yX11_charges : MethodName := ⟨RX11, "charges", "()I"⟩
abbrev cX11_spread : ByteArray := prog_13_method_60_code
def yX11_spread : MethodName := ⟨RX11, "spread", "(II)I"⟩
abbrev cX11_waysBut : ByteArray := prog_13_method_61_code
def yX11_waysBut : MethodName := ⟨RX11, "waysBut", "(III)I"⟩
abbrev cX11_homeFrom : ByteArray := prog_13_method_62_code
def yX11_homeFrom : MethodName := ⟨RX11, "homeFrom", "(II)I"⟩
abbrev cX11_begins : ByteArray := prog_13_method_63_code
def yX11_begins : MethodName := ⟨RX11, "begins", "()V"⟩
abbrev cX11_force : ByteArray := prog_13_method_64_code
def yX11_force : MethodName := ⟨RX11, "force", "(I)I"⟩
abbrev cX11_lure : ByteArray := prog_13_method_65_code
def yX11_lure : MethodName := ⟨RX11, "lure", "(II)I"⟩
abbrev cX11_walker : ByteArray := prog_13_method_66_code
def yX11_walker : MethodName := ⟨RX11, "walker", "(II)I"⟩
abbrev cX11_ways : ByteArray := prog_13_method_67_code
def yX11_ways : MethodName := ⟨RX11, "ways", "(I)I"⟩
abbrev cX11_summedBy : ByteArray := prog_13_method_68_code
def yX11_summedBy : MethodName := ⟨RX11, "summedBy", "(I)J"⟩
abbrev cX11_wouldHave : ByteArray := prog_13_method_69_code
def yX11_wouldHave : MethodName := ⟨RX11, "wouldHave", "(II)Z"⟩
abbrev cX11_sumOf : ByteArray := prog_13_method_70_code
def yX11_sumOf : MethodName := ⟨RX11, "sumOf", "(II)J"⟩
abbrev cX11_homewards : ByteArray := prog_13_method_71_code
def yX11_homewards : MethodName := ⟨RX11, "homewards", "(I)I"⟩
abbrev cX11_choice : ByteArray := prog_13_method_72_code
def yX11_choice : MethodName := ⟨RX11, "choice", "(I)I"⟩
abbrev cX11_lureFor : ByteArray := prog_13_method_73_code
def yX11_lureFor : MethodName := ⟨RX11, "lureFor", "(I)I"⟩
abbrev cX11_has : ByteArray := prog_13_method_74_code
def yX11_has : MethodName := ⟨RX11, "has", "(II)V"⟩
abbrev cX11_passes : ByteArray := prog_13_method_75_code
def yX11_passes : MethodName := ⟨RX11, "passes", "()I"⟩
abbrev cX11_passesAll : ByteArray := prog_13_method_76_code
def yX11_passesAll : MethodName := ⟨RX11, "passesAll", "(I)V"⟩
abbrev cX11_keepsAct : ByteArray := prog_13_method_77_code
def yX11_keepsAct : MethodName := ⟨RX11, "keepsAct", "()V"⟩
abbrev cX11_undo : ByteArray := prog_13_method_78_code
def yX11_undo : MethodName := ⟨RX11, "undo", "()I"⟩
abbrev cX11_step : ByteArray := prog_13_method_79_code
def yX11_step : MethodName := ⟨RX11, "step", "()I"⟩
abbrev cX11_set : ByteArray := prog_13_method_80_code
def yX11_set : MethodName := ⟨RX11, "set", "(II)I"⟩
abbrev cX11_move : ByteArray := prog_13_method_81_code
def yX11_move : MethodName := ⟨RX11, "move", "(II)I"⟩
abbrev cX11_bait : ByteArray := prog_13_method_82_code
def yX11_bait : MethodName := ⟨RX11, "bait", "(II)I"⟩
abbrev cX11_calm : ByteArray := prog_13_method_83_code
def yX11_calm : MethodName := ⟨RX11, "calm", "(II)I"⟩
abbrev cX11_keeps : ByteArray := prog_13_method_84_code
def yX11_keeps : MethodName := ⟨RX11, "keeps", "()V"⟩
abbrev cX11_laysBack : ByteArray := prog_13_method_85_code
def yX11_laysBack : MethodName := ⟨RX11, "laysBack", "()V"⟩
abbrev cX11_ahead : ByteArray := prog_13_method_86_code
def yX11_ahead : MethodName := ⟨RX11, "ahead", "(III)I"⟩
abbrev cX11_had : ByteArray := prog_13_method_87_code
def yX11_had : MethodName := ⟨RX11, "had", "(II)I"⟩
abbrev cX11_leastOf : ByteArray := prog_13_method_88_code
def yX11_leastOf : MethodName := ⟨RX11, "leastOf", "(I)I"⟩
abbrev cX11_first : ByteArray := prog_13_method_89_code
def yX11_first : MethodName := ⟨RX11, "first", "(I)I"⟩
abbrev cX11_waysTold : ByteArray := prog_13_method_90_code
def yX11_waysTold : MethodName := ⟨RX11, "waysTold", "(I)I"⟩
abbrev cX11_far : ByteArray := prog_13_method_91_code
def yX11_far : MethodName := ⟨RX11, "far", "(I)I"⟩
abbrev cX11_illCorners : ByteArray := prog_13_method_92_code
def yX11_illCorners : MethodName := ⟨RX11, "illCorners", "(I)I"⟩
abbrev cX11_safe : ByteArray := prog_13_method_93_code
def yX11_safe : MethodName := ⟨RX11, "safe", "(I)I"⟩
abbrev cX11_stuck : ByteArray := prog_13_method_94_code
def yX11_stuck : MethodName := ⟨RX11, "stuck", "(I)I"⟩
abbrev cX11_chargesIn : ByteArray := prog_13_method_95_code
def yX11_chargesIn : MethodName := ⟨RX11, "chargesIn", "(I)I"⟩
abbrev cX11_bestFor : ByteArray := prog_13_method_96_code
def yX11_bestFor : MethodName := ⟨RX11, "bestFor", "(IIII)I"⟩
abbrev cX11_best : ByteArray := prog_13_method_97_code
def yX11_best : MethodName := ⟨RX11, "best", "(III)I"⟩
abbrev cX11_kind : ByteArray := prog_13_method_98_code
def yX11_kind : MethodName := ⟨RX11, "kind", "(III)I"⟩
abbrev cX11_covers : ByteArray := prog_13_method_99_code
def yX11_covers : MethodName := ⟨RX11, "covers", "(I)Z"⟩
abbrev cX11_cover : ByteArray := prog_13_method_100_code
def yX11_cover : MethodName := ⟨RX11, "cover", "(I)I"⟩
abbrev cX11_isRest : ByteArray := prog_13_method_101_code
def yX11_isRest : MethodName := ⟨RX11, "isRest", "(II)Z"⟩
abbrev cX11_hasThen : ByteArray := prog_13_method_102_code
def yX11_hasThen : MethodName := ⟨RX11, "hasThen", "(I)I"⟩
abbrev cX11_fillsRest : ByteArray := prog_13_method_103_code
def yX11_fillsRest : MethodName := ⟨RX11, "fillsRest", "(IIIII)V"⟩
abbrev cX11_rests : ByteArray := prog_13_method_104_code
def yX11_rests : MethodName := ⟨RX11, "rests", "(IIII)I"⟩
abbrev cX11_areAlike : ByteArray := prog_13_method_105_code
def yX11_areAlike : MethodName := ⟨RX11, "areAlike", "(II)Z"⟩
abbrev cX11_ring : ByteArray := prog_13_method_106_code
def yX11_ring : MethodName := ⟨RX11, "ring", "(I)I"⟩
abbrev cX11_pence : ByteArray := prog_13_method_107_code
def yX11_pence : MethodName := ⟨RX11, "pence", "(II)I"⟩
abbrev cX11_note : ByteArray := prog_13_method_108_code
def yX11_note : MethodName := ⟨RX11, "note", "(III)I"⟩
abbrev cX11_areNotesSo : ByteArray := prog_13_method_109_code
def yX11_areNotesSo : MethodName := ⟨RX11, "areNotesSo", "(I)Z"⟩
abbrev cX11_areAllSo : ByteArray := prog_13_method_110_code
def yX11_areAllSo : MethodName := ⟨RX11, "areAllSo", "(II)Z"⟩
abbrev cX11_fillsFits : ByteArray := prog_13_method_111_code
def yX11_fillsFits : MethodName := ⟨RX11, "fillsFits", "(I)V"⟩
abbrev cX11_ruled : ByteArray := prog_13_method_112_code
def yX11_ruled : MethodName := ⟨RX11, "ruled", "(I)I"⟩
abbrev cX11_alikeAt : ByteArray := prog_13_method_113_code
def yX11_alikeAt : MethodName := ⟨RX11, "alikeAt", "(I)I"⟩
abbrev cX11_look : ByteArray := prog_13_method_114_code
def yX11_look : MethodName := ⟨RX11, "look", "(II)I"⟩
abbrev cX11_canBe : ByteArray := prog_13_method_115_code
def yX11_canBe : MethodName := ⟨RX11, "canBe", "(II)I"⟩
abbrev cX11_hearts : ByteArray := prog_13_method_116_code
def yX11_hearts : MethodName := ⟨RX11, "hearts", "(I)I"⟩
abbrev cX11_waries : ByteArray := prog_13_method_117_code
def yX11_waries : MethodName := ⟨RX11, "waries", "(I)I"⟩
abbrev cX11_seed : ByteArray := prog_13_method_118_code
def yX11_seed : MethodName := ⟨RX11, "seed", "(I)I"⟩
abbrev cX11_draw : ByteArray := prog_13_method_119_code
def yX11_draw : MethodName := ⟨RX11, "draw", "(I)I"⟩
abbrev cX11_nights : ByteArray := prog_13_method_120_code
def yX11_nights : MethodName := ⟨RX11, "nights", "(IIII)I"⟩
abbrev cX11_count : ByteArray := prog_13_method_121_code
def yX11_count : MethodName := ⟨RX11, "count", "(I)I"⟩
abbrev cX11_image : ByteArray := prog_13_method_122_code
def yX11_image : MethodName := ⟨RX11, "image", "(I)I"⟩
abbrev cX11_back : ByteArray := prog_13_method_123_code
def yX11_back : MethodName := ⟨RX11, "back", "(I)I"⟩
def RL : String := "LureTownLaw"
abbrev classes : List vw_C := [(RX0, TX0, 3), (RX1, TX1, 6), (RX2, TX2, 5), (RX3, TX3, 4), (RX4, TX4, 6), (RX5, TX5, 9), (RX6, TX6, 8), (RX7, TX7, 7), (RX8, TX8, 10), (RX9, TX9, 3), (RX10, TX10, 17), (RX11, TX11, 37)]
def cls_ty : Nat → Nat → FieldType := fun c => match c with
  | 0 => tyX0
  | 1 => tyX1
  | 2 => tyX2
  | 3 => tyX3
  | 4 => tyX4
  | 5 => tyX5
  | 6 => tyX6
  | 7 => tyX7
  | 8 => tyX8
  | 9 => tyX9
  | 10 => tyX10
  | _ => tyX11
theorem cls_tyok {ci : Nat} {C : String} {T : u_T} {N : Nat} (hc : classes[ci]? = some (C, T, N)) : ∀ k, k < N → parseFieldDescriptor (T k).2.2.1 = some (cls_ty ci k) := by
  match ci, hc with
  | 0, hc => cases hc; exact tyX0_ok
  | 1, hc => cases hc; exact tyX1_ok
  | 2, hc => cases hc; exact tyX2_ok
  | 3, hc => cases hc; exact tyX3_ok
  | 4, hc => cases hc; exact tyX4_ok
  | 5, hc => cases hc; exact tyX5_ok
  | 6, hc => cases hc; exact tyX6_ok
  | 7, hc => cases hc; exact tyX7_ok
  | 8, hc => cases hc; exact tyX8_ok
  | 9, hc => cases hc; exact tyX9_ok
  | 10, hc => cases hc; exact tyX10_ok
  | 11, hc => cases hc; exact tyX11_ok
  | k + 12, hc => simp [classes] at hc
theorem cls_nm {ci : Nat} {C : String} {T : u_T} {N : Nat} (hc : classes[ci]? = some (C, T, N)) : ∀ a, a < N → ∀ b, b < N → a ≠ b → (T a).2.1 ≠ (T b).2.1 := by
  match ci, hc with
  | 0, hc => cases hc; exact nmX0
  | 1, hc => cases hc; exact nmX1
  | 2, hc => cases hc; exact nmX2
  | 3, hc => cases hc; exact nmX3
  | 4, hc => cases hc; exact nmX4
  | 5, hc => cases hc; exact nmX5
  | 6, hc => cases hc; exact nmX6
  | 7, hc => cases hc; exact nmX7
  | 8, hc => cases hc; exact nmX8
  | 9, hc => cases hc; exact nmX9
  | 10, hc => cases hc; exact nmX10
  | 11, hc => cases hc; exact nmX11
  | k + 12, hc => simp [classes] at hc
abbrev mU : Type := (Nat → Nat) × (Nat → Nat → Int32) × (Nat → Nat → Option Nat)
end
section
/-! my own kit over the worlds: one list of words for all methods (cw), a method's fixed things (mE), its world (mG), rows over these -/
def okw : Cond → Bool
  | .methodLinkNest .. => true
  | .fieldLinkNest .. => true
  | .arrayOver (.object _) => true
  | w => goodWord w
def cw : List Cond := lw_tbl.filter okw
theorem cw_of {w : Cond} (h : w ∈ lw_tbl) (ho : okw w = true) : w ∈ cw := List.mem_filter.mpr ⟨h, ho⟩
theorem cw_warm {args : Array Value} {s : State} (hts : ∀ w ∈ cw, w.before args s = true) : ∀ w ∈ cw, ∀ (a' : Array Value) (U : State), s.WarmedH U.vm → w.before a' U = true := by
  intro w hw a' U hW
  have hk := (List.mem_filter.mp hw).2
  have hb := hts w hw
  unfold okw at hk
  split at hk
  · exact va_Nw.use rfl (va_Nw.warmM hW (va_Nw.of rfl hb))
  · exact va_Nw.use rfl (va_Nw.warmF hW (va_Nw.of rfl hb))
  · exact va_AO.use (va_AO.moved hW.alike (va_AO.of hb))
  · exact word_at hW (good_of_word hk) hb
def cwd (y : MethodName) (bytes : ByteArray) (maxL : Nat) (ret : Option FieldType) : List Cond := .code y bytes maxL ret :: cw
theorem cwd_warm {args : Array Value} {s : State} (hts : ∀ w ∈ cw, w.before args s = true) {y : MethodName} {bytes : ByteArray} {maxL : Nat} {ret : Option FieldType} (hm : Cond.code y bytes maxL ret ∈ cw) : ∀ w ∈ cwd y bytes maxL ret, ∀ (a' : Array Value) (U : State), s.WarmedH U.vm → w.before a' U = true := by
  intro w hw
  rcases List.mem_cons.mp hw with rfl | hw
  · exact cw_warm hts _ hm
  · exact cw_warm hts _ hw
theorem mw_aBool : (Cond.arrayClass .boolean : Cond) ∈ cw := cw_of (List.mem_append_right _ (List.mem_append_right _ (List.mem_append_right _ (List.mem_append_right _ (List.mem_append_right _ (List.mem_append_left _ (List.mem_of_getElem? (i := 219) (by decide +kernel)))))))) (by decide +kernel)
theorem mw_aByte : (Cond.arrayClass .byte : Cond) ∈ cw := cw_of (List.mem_append_right _ (List.mem_append_left _ (List.mem_of_getElem? (i := 65) (by decide +kernel)))) (by decide +kernel)
theorem mw_aInt : (Cond.arrayClass .int : Cond) ∈ cw := cw_of (List.mem_append_right _ (List.mem_append_left _ (List.mem_of_getElem? (i := 133) (by decide +kernel)))) (by decide +kernel)
theorem mw_aLong : (Cond.arrayClass .long : Cond) ∈ cw := cw_of (List.mem_append_right _ (List.mem_append_left _ (List.mem_of_getElem? (i := 227) (by decide +kernel)))) (by decide +kernel)
theorem mw_cpIni : (Cond.initialized "java/lang/System" : Cond) ∈ cw := cw_of (List.mem_append_right _ (List.mem_append_left _ (List.mem_of_getElem? (i := 19) (by decide +kernel)))) (by decide +kernel)
theorem mw_cpNat : (Cond.native arraycopyName : Cond) ∈ cw := cw_of (List.mem_append_right _ (List.mem_append_right _ (List.mem_append_right _ (List.mem_append_left _ (List.mem_of_getElem? (i := 166) (by decide +kernel)))))) (by decide +kernel)
theorem mw_cpSt : (Cond.static arraycopyName : Cond) ∈ cw := cw_of (List.mem_append_right _ (List.mem_append_right _ (List.mem_append_right _ (List.mem_append_left _ (List.mem_of_getElem? (i := 165) (by decide +kernel)))))) (by decide +kernel)
theorem mw_lay_0_0 : (Cond.lays RX0 "LureTown$Acts" "size" "I" : Cond) ∈ cw := cw_of (List.mem_append_right _ (List.mem_append_right _ (List.mem_append_left _ (List.mem_of_getElem? (i := 86) (by decide +kernel))))) (by decide +kernel)
theorem mw_lay_0_1 : (Cond.lays RX0 "LureTown$Acts" "next" "I" : Cond) ∈ cw := cw_of (List.mem_append_right _ (List.mem_append_right _ (List.mem_append_left _ (List.mem_of_getElem? (i := 88) (by decide +kernel))))) (by decide +kernel)
theorem mw_lay_0_2 : (Cond.laysFinal RX0 "LureTown$Acts" "before" "[LLureTown$State;" : Cond) ∈ cw := cw_of (List.mem_append_right _ (List.mem_append_right _ (List.mem_append_left _ (List.mem_of_getElem? (i := 90) (by decide +kernel))))) (by decide +kernel)
theorem mw_lay_10_0 : (Cond.laysFinal RX10 "LureTown" "tape" "LLureTown$Tape;" : Cond) ∈ cw := cw_of (List.mem_append_right _ (List.mem_append_right _ (List.mem_append_left _ (List.mem_of_getElem? (i := 145) (by decide +kernel))))) (by decide +kernel)
theorem mw_lay_10_1 : (Cond.laysFinal RX10 "LureTown" "townReader" "LLureTown$TownReader;" : Cond) ∈ cw := cw_of (List.mem_append_right _ (List.mem_append_right _ (List.mem_append_left _ (List.mem_of_getElem? (i := 147) (by decide +kernel))))) (by decide +kernel)
theorem mw_lay_10_10 : (Cond.laysFinal RX10 "LureTown" "acts" "LLureTown$Acts;" : Cond) ∈ cw := cw_of (List.mem_append_right _ (List.mem_append_right _ (List.mem_append_left _ (List.mem_of_getElem? (i := 165) (by decide +kernel))))) (by decide +kernel)
theorem mw_lay_10_11 : (Cond.laysFinal RX10 "LureTown" "course" "LLureTown$Course;" : Cond) ∈ cw := cw_of (List.mem_append_right _ (List.mem_append_right _ (List.mem_append_left _ (List.mem_of_getElem? (i := 167) (by decide +kernel))))) (by decide +kernel)
theorem mw_lay_10_12 : (Cond.laysFinal RX10 "LureTown" "altered" "LLureTown$State;" : Cond) ∈ cw := cw_of (List.mem_append_right _ (List.mem_append_right _ (List.mem_append_left _ (List.mem_of_getElem? (i := 169) (by decide +kernel))))) (by decide +kernel)
theorem mw_lay_10_13 : (Cond.laysFinal RX10 "LureTown" "tally" "[I" : Cond) ∈ cw := cw_of (List.mem_append_right _ (List.mem_append_right _ (List.mem_append_left _ (List.mem_of_getElem? (i := 171) (by decide +kernel))))) (by decide +kernel)
theorem mw_lay_10_14 : (Cond.laysFinal RX10 "LureTown" "marks" "[I" : Cond) ∈ cw := cw_of (List.mem_append_right _ (List.mem_append_right _ (List.mem_append_left _ (List.mem_of_getElem? (i := 173) (by decide +kernel))))) (by decide +kernel)
theorem mw_lay_10_15 : (Cond.laysFinal RX10 "LureTown" "gains" "[I" : Cond) ∈ cw := cw_of (List.mem_append_right _ (List.mem_append_right _ (List.mem_append_left _ (List.mem_of_getElem? (i := 175) (by decide +kernel))))) (by decide +kernel)
theorem mw_lay_10_16 : (Cond.laysFinal RX10 "LureTown" "otherGains" "[I" : Cond) ∈ cw := cw_of (List.mem_append_right _ (List.mem_append_right _ (List.mem_append_left _ (List.mem_of_getElem? (i := 177) (by decide +kernel))))) (by decide +kernel)
theorem mw_lay_10_2 : (Cond.laysFinal RX10 "LureTown" "ruleReader" "LLureTown$RuleReader;" : Cond) ∈ cw := cw_of (List.mem_append_right _ (List.mem_append_right _ (List.mem_append_left _ (List.mem_of_getElem? (i := 149) (by decide +kernel))))) (by decide +kernel)
theorem mw_lay_10_3 : (Cond.laysFinal RX10 "LureTown" "draft" "LLureTown$Town;" : Cond) ∈ cw := cw_of (List.mem_append_right _ (List.mem_append_right _ (List.mem_append_left _ (List.mem_of_getElem? (i := 151) (by decide +kernel))))) (by decide +kernel)
theorem mw_lay_10_4 : (Cond.laysFinal RX10 "LureTown" "rules" "[LLureTown$Rule;" : Cond) ∈ cw := cw_of (List.mem_append_right _ (List.mem_append_right _ (List.mem_append_left _ (List.mem_of_getElem? (i := 153) (by decide +kernel))))) (by decide +kernel)
theorem mw_lay_10_5 : (Cond.lays RX10 "LureTown" "ruleCount" "I" : Cond) ∈ cw := cw_of (List.mem_append_right _ (List.mem_append_right _ (List.mem_append_left _ (List.mem_of_getElem? (i := 155) (by decide +kernel))))) (by decide +kernel)
theorem mw_lay_10_6 : (Cond.laysFinal RX10 "LureTown" "noRule" "LLureTown$Rule;" : Cond) ∈ cw := cw_of (List.mem_append_right _ (List.mem_append_right _ (List.mem_append_left _ (List.mem_of_getElem? (i := 157) (by decide +kernel))))) (by decide +kernel)
theorem mw_lay_10_7 : (Cond.laysFinal RX10 "LureTown" "now" "LLureTown$Moment;" : Cond) ∈ cw := cw_of (List.mem_append_right _ (List.mem_append_right _ (List.mem_append_left _ (List.mem_of_getElem? (i := 159) (by decide +kernel))))) (by decide +kernel)
theorem mw_lay_10_8 : (Cond.laysFinal RX10 "LureTown" "images" "[LLureTown$Moment;" : Cond) ∈ cw := cw_of (List.mem_append_right _ (List.mem_append_right _ (List.mem_append_left _ (List.mem_of_getElem? (i := 161) (by decide +kernel))))) (by decide +kernel)
theorem mw_lay_10_9 : (Cond.lays RX10 "LureTown" "imagesMade" "I" : Cond) ∈ cw := cw_of (List.mem_append_right _ (List.mem_append_right _ (List.mem_append_left _ (List.mem_of_getElem? (i := 163) (by decide +kernel))))) (by decide +kernel)
theorem mw_lay_11_0 : (Cond.laysFinal RX11 "LureTownModel" "tape" "[B" : Cond) ∈ cw := cw_of (List.mem_append_right _ (List.mem_append_right _ (List.mem_append_right _ (List.mem_append_right _ (List.mem_append_right _ (List.mem_append_left _ (List.mem_of_getElem? (i := 144) (by decide +kernel)))))))) (by decide +kernel)
theorem mw_lay_11_1 : (Cond.lays RX11 "LureTownModel" "taped" "I" : Cond) ∈ cw := cw_of (List.mem_append_right _ (List.mem_append_right _ (List.mem_append_right _ (List.mem_append_right _ (List.mem_append_right _ (List.mem_append_left _ (List.mem_of_getElem? (i := 146) (by decide +kernel)))))))) (by decide +kernel)
theorem mw_lay_11_10 : (Cond.lays RX11 "LureTownModel" "number" "I" : Cond) ∈ cw := cw_of (List.mem_append_right _ (List.mem_append_right _ (List.mem_append_right _ (List.mem_append_right _ (List.mem_append_right _ (List.mem_append_left _ (List.mem_of_getElem? (i := 164) (by decide +kernel)))))))) (by decide +kernel)
theorem mw_lay_11_11 : (Cond.lays RX11 "LureTownModel" "text" "I" : Cond) ∈ cw := cw_of (List.mem_append_right _ (List.mem_append_right _ (List.mem_append_right _ (List.mem_append_right _ (List.mem_append_right _ (List.mem_append_left _ (List.mem_of_getElem? (i := 166) (by decide +kernel)))))))) (by decide +kernel)
theorem mw_lay_11_12 : (Cond.lays RX11 "LureTownModel" "made" "I" : Cond) ∈ cw := cw_of (List.mem_append_right _ (List.mem_append_right _ (List.mem_append_right _ (List.mem_append_right _ (List.mem_append_right _ (List.mem_append_left _ (List.mem_of_getElem? (i := 168) (by decide +kernel)))))))) (by decide +kernel)
theorem mw_lay_11_13 : (Cond.lays RX11 "LureTownModel" "deep" "I" : Cond) ∈ cw := cw_of (List.mem_append_right _ (List.mem_append_right _ (List.mem_append_right _ (List.mem_append_right _ (List.mem_append_right _ (List.mem_append_left _ (List.mem_of_getElem? (i := 170) (by decide +kernel)))))))) (by decide +kernel)
theorem mw_lay_11_14 : (Cond.lays RX11 "LureTownModel" "lines" "I" : Cond) ∈ cw := cw_of (List.mem_append_right _ (List.mem_append_right _ (List.mem_append_right _ (List.mem_append_right _ (List.mem_append_right _ (List.mem_append_left _ (List.mem_of_getElem? (i := 172) (by decide +kernel)))))))) (by decide +kernel)
theorem mw_lay_11_15 : (Cond.laysFinal RX11 "LureTownModel" "open" "[I" : Cond) ∈ cw := cw_of (List.mem_append_right _ (List.mem_append_right _ (List.mem_append_right _ (List.mem_append_right _ (List.mem_append_right _ (List.mem_append_left _ (List.mem_of_getElem? (i := 174) (by decide +kernel)))))))) (by decide +kernel)
theorem mw_lay_11_16 : (Cond.lays RX11 "LureTownModel" "opened" "I" : Cond) ∈ cw := cw_of (List.mem_append_right _ (List.mem_append_right _ (List.mem_append_right _ (List.mem_append_right _ (List.mem_append_right _ (List.mem_append_left _ (List.mem_of_getElem? (i := 176) (by decide +kernel)))))))) (by decide +kernel)
theorem mw_lay_11_17 : (Cond.laysFinal RX11 "LureTownModel" "stack" "[J" : Cond) ∈ cw := cw_of (List.mem_append_right _ (List.mem_append_right _ (List.mem_append_right _ (List.mem_append_right _ (List.mem_append_right _ (List.mem_append_left _ (List.mem_of_getElem? (i := 178) (by decide +kernel)))))))) (by decide +kernel)
theorem mw_lay_11_18 : (Cond.lays RX11 "LureTownModel" "top" "I" : Cond) ∈ cw := cw_of (List.mem_append_right _ (List.mem_append_right _ (List.mem_append_right _ (List.mem_append_right _ (List.mem_append_right _ (List.mem_append_left _ (List.mem_of_getElem? (i := 180) (by decide +kernel)))))))) (by decide +kernel)
theorem mw_lay_11_19 : (Cond.laysFinal RX11 "LureTownModel" "word" "[J" : Cond) ∈ cw := cw_of (List.mem_append_right _ (List.mem_append_right _ (List.mem_append_right _ (List.mem_append_right _ (List.mem_append_right _ (List.mem_append_left _ (List.mem_of_getElem? (i := 182) (by decide +kernel)))))))) (by decide +kernel)
theorem mw_lay_11_2 : (Cond.lays RX11 "LureTownModel" "rules" "I" : Cond) ∈ cw := cw_of (List.mem_append_right _ (List.mem_append_right _ (List.mem_append_right _ (List.mem_append_right _ (List.mem_append_right _ (List.mem_append_left _ (List.mem_of_getElem? (i := 148) (by decide +kernel)))))))) (by decide +kernel)
theorem mw_lay_11_20 : (Cond.laysFinal RX11 "LureTownModel" "said" "[I" : Cond) ∈ cw := cw_of (List.mem_append_right _ (List.mem_append_right _ (List.mem_append_right _ (List.mem_append_right _ (List.mem_append_right _ (List.mem_append_left _ (List.mem_of_getElem? (i := 184) (by decide +kernel)))))))) (by decide +kernel)
theorem mw_lay_11_21 : (Cond.lays RX11 "LureTownModel" "force" "I" : Cond) ∈ cw := cw_of (List.mem_append_right _ (List.mem_append_right _ (List.mem_append_right _ (List.mem_append_right _ (List.mem_append_right _ (List.mem_append_left _ (List.mem_of_getElem? (i := 186) (by decide +kernel)))))))) (by decide +kernel)
theorem mw_lay_11_22 : (Cond.lays RX11 "LureTownModel" "x" "I" : Cond) ∈ cw := cw_of (List.mem_append_right _ (List.mem_append_right _ (List.mem_append_right _ (List.mem_append_right _ (List.mem_append_right _ (List.mem_append_left _ (List.mem_of_getElem? (i := 188) (by decide +kernel)))))))) (by decide +kernel)
theorem mw_lay_11_23 : (Cond.laysFinal RX11 "LureTownModel" "goesTo" "[I" : Cond) ∈ cw := cw_of (List.mem_append_right _ (List.mem_append_right _ (List.mem_append_right _ (List.mem_append_right _ (List.mem_append_right _ (List.mem_append_left _ (List.mem_of_getElem? (i := 190) (by decide +kernel)))))))) (by decide +kernel)
theorem mw_lay_11_24 : (Cond.laysFinal RX11 "LureTownModel" "hadBy" "[I" : Cond) ∈ cw := cw_of (List.mem_append_right _ (List.mem_append_right _ (List.mem_append_right _ (List.mem_append_right _ (List.mem_append_right _ (List.mem_append_left _ (List.mem_of_getElem? (i := 192) (by decide +kernel)))))))) (by decide +kernel)
theorem mw_lay_11_25 : (Cond.laysFinal RX11 "LureTownModel" "wasSaid" "[I" : Cond) ∈ cw := cw_of (List.mem_append_right _ (List.mem_append_right _ (List.mem_append_right _ (List.mem_append_right _ (List.mem_append_right _ (List.mem_append_left _ (List.mem_of_getElem? (i := 194) (by decide +kernel)))))))) (by decide +kernel)
theorem mw_lay_11_26 : (Cond.lays RX11 "LureTownModel" "undone" "I" : Cond) ∈ cw := cw_of (List.mem_append_right _ (List.mem_append_right _ (List.mem_append_right _ (List.mem_append_right _ (List.mem_append_right _ (List.mem_append_left _ (List.mem_of_getElem? (i := 196) (by decide +kernel)))))))) (by decide +kernel)
theorem mw_lay_11_27 : (Cond.laysFinal RX11 "LureTownModel" "kept" "[I" : Cond) ∈ cw := cw_of (List.mem_append_right _ (List.mem_append_right _ (List.mem_append_right _ (List.mem_append_right _ (List.mem_append_right _ (List.mem_append_left _ (List.mem_of_getElem? (i := 198) (by decide +kernel)))))))) (by decide +kernel)
theorem mw_lay_11_28 : (Cond.laysFinal RX11 "LureTownModel" "hasBy" "[I" : Cond) ∈ cw := cw_of (List.mem_append_right _ (List.mem_append_right _ (List.mem_append_right _ (List.mem_append_right _ (List.mem_append_right _ (List.mem_append_left _ (List.mem_of_getElem? (i := 200) (by decide +kernel)))))))) (by decide +kernel)
theorem mw_lay_11_29 : (Cond.laysFinal RX11 "LureTownModel" "standsThen" "[I" : Cond) ∈ cw := cw_of (List.mem_append_right _ (List.mem_append_right _ (List.mem_append_right _ (List.mem_append_right _ (List.mem_append_right _ (List.mem_append_left _ (List.mem_of_getElem? (i := 202) (by decide +kernel)))))))) (by decide +kernel)
theorem mw_lay_11_3 : (Cond.laysFinal RX11 "LureTownModel" "sign" "[I" : Cond) ∈ cw := cw_of (List.mem_append_right _ (List.mem_append_right _ (List.mem_append_right _ (List.mem_append_right _ (List.mem_append_right _ (List.mem_append_left _ (List.mem_of_getElem? (i := 150) (by decide +kernel)))))))) (by decide +kernel)
theorem mw_lay_11_30 : (Cond.laysFinal RX11 "LureTownModel" "isFit" "[Z" : Cond) ∈ cw := cw_of (List.mem_append_right _ (List.mem_append_right _ (List.mem_append_right _ (List.mem_append_right _ (List.mem_append_right _ (List.mem_append_left _ (List.mem_of_getElem? (i := 204) (by decide +kernel)))))))) (by decide +kernel)
theorem mw_lay_11_31 : (Cond.laysFinal RX11 "LureTownModel" "cornerThen" "[I" : Cond) ∈ cw := cw_of (List.mem_append_right _ (List.mem_append_right _ (List.mem_append_right _ (List.mem_append_right _ (List.mem_append_right _ (List.mem_append_left _ (List.mem_of_getElem? (i := 206) (by decide +kernel)))))))) (by decide +kernel)
theorem mw_lay_11_32 : (Cond.lays RX11 "LureTownModel" "drawX" "J" : Cond) ∈ cw := cw_of (List.mem_append_right _ (List.mem_append_right _ (List.mem_append_right _ (List.mem_append_right _ (List.mem_append_right _ (List.mem_append_left _ (List.mem_of_getElem? (i := 208) (by decide +kernel)))))))) (by decide +kernel)
theorem mw_lay_11_33 : (Cond.laysFinal RX11 "LureTownModel" "images" "[I" : Cond) ∈ cw := cw_of (List.mem_append_right _ (List.mem_append_right _ (List.mem_append_right _ (List.mem_append_right _ (List.mem_append_right _ (List.mem_append_left _ (List.mem_of_getElem? (i := 210) (by decide +kernel)))))))) (by decide +kernel)
theorem mw_lay_11_34 : (Cond.laysFinal RX11 "LureTownModel" "imageForce" "[I" : Cond) ∈ cw := cw_of (List.mem_append_right _ (List.mem_append_right _ (List.mem_append_right _ (List.mem_append_right _ (List.mem_append_right _ (List.mem_append_left _ (List.mem_of_getElem? (i := 212) (by decide +kernel)))))))) (by decide +kernel)
theorem mw_lay_11_35 : (Cond.laysFinal RX11 "LureTownModel" "imageX" "[I" : Cond) ∈ cw := cw_of (List.mem_append_right _ (List.mem_append_right _ (List.mem_append_right _ (List.mem_append_right _ (List.mem_append_right _ (List.mem_append_left _ (List.mem_of_getElem? (i := 214) (by decide +kernel)))))))) (by decide +kernel)
theorem mw_lay_11_36 : (Cond.laysFinal RX11 "LureTownModel" "isMade" "[Z" : Cond) ∈ cw := cw_of (List.mem_append_right _ (List.mem_append_right _ (List.mem_append_right _ (List.mem_append_right _ (List.mem_append_right _ (List.mem_append_left _ (List.mem_of_getElem? (i := 216) (by decide +kernel)))))))) (by decide +kernel)
theorem mw_lay_11_4 : (Cond.laysFinal RX11 "LureTownModel" "length" "[I" : Cond) ∈ cw := cw_of (List.mem_append_right _ (List.mem_append_right _ (List.mem_append_right _ (List.mem_append_right _ (List.mem_append_right _ (List.mem_append_left _ (List.mem_of_getElem? (i := 152) (by decide +kernel)))))))) (by decide +kernel)
theorem mw_lay_11_5 : (Cond.laysFinal RX11 "LureTownModel" "clause" "[I" : Cond) ∈ cw := cw_of (List.mem_append_right _ (List.mem_append_right _ (List.mem_append_right _ (List.mem_append_right _ (List.mem_append_right _ (List.mem_append_left _ (List.mem_of_getElem? (i := 154) (by decide +kernel)))))))) (by decide +kernel)
theorem mw_lay_11_6 : (Cond.laysFinal RX11 "LureTownModel" "clauses" "[I" : Cond) ∈ cw := cw_of (List.mem_append_right _ (List.mem_append_right _ (List.mem_append_right _ (List.mem_append_right _ (List.mem_append_right _ (List.mem_append_left _ (List.mem_of_getElem? (i := 156) (by decide +kernel)))))))) (by decide +kernel)
theorem mw_lay_11_7 : (Cond.laysFinal RX11 "LureTownModel" "read" "[I" : Cond) ∈ cw := cw_of (List.mem_append_right _ (List.mem_append_right _ (List.mem_append_right _ (List.mem_append_right _ (List.mem_append_right _ (List.mem_append_left _ (List.mem_of_getElem? (i := 158) (by decide +kernel)))))))) (by decide +kernel)
theorem mw_lay_11_8 : (Cond.lays RX11 "LureTownModel" "next" "I" : Cond) ∈ cw := cw_of (List.mem_append_right _ (List.mem_append_right _ (List.mem_append_right _ (List.mem_append_right _ (List.mem_append_right _ (List.mem_append_left _ (List.mem_of_getElem? (i := 160) (by decide +kernel)))))))) (by decide +kernel)
theorem mw_lay_11_9 : (Cond.lays RX11 "LureTownModel" "wrong" "I" : Cond) ∈ cw := cw_of (List.mem_append_right _ (List.mem_append_right _ (List.mem_append_right _ (List.mem_append_right _ (List.mem_append_right _ (List.mem_append_left _ (List.mem_of_getElem? (i := 162) (by decide +kernel)))))))) (by decide +kernel)
theorem mw_lay_1_0 : (Cond.laysFinal RX1 "LureTown$Course" "state" "LLureTown$State;" : Cond) ∈ cw := cw_of (List.mem_append_right _ (List.mem_append_right _ (List.mem_append_left _ (List.mem_of_getElem? (i := 113) (by decide +kernel))))) (by decide +kernel)
theorem mw_lay_1_1 : (Cond.laysFinal RX1 "LureTown$Course" "hadBy" "[I" : Cond) ∈ cw := cw_of (List.mem_append_right _ (List.mem_append_right _ (List.mem_append_left _ (List.mem_of_getElem? (i := 115) (by decide +kernel))))) (by decide +kernel)
theorem mw_lay_1_2 : (Cond.laysFinal RX1 "LureTown$Course" "goals" "[I" : Cond) ∈ cw := cw_of (List.mem_append_right _ (List.mem_append_right _ (List.mem_append_left _ (List.mem_of_getElem? (i := 117) (by decide +kernel))))) (by decide +kernel)
theorem mw_lay_1_3 : (Cond.laysFinal RX1 "LureTown$Course" "words" "[I" : Cond) ∈ cw := cw_of (List.mem_append_right _ (List.mem_append_right _ (List.mem_append_left _ (List.mem_of_getElem? (i := 119) (by decide +kernel))))) (by decide +kernel)
theorem mw_lay_1_4 : (Cond.lays RX1 "LureTown$Course" "town" "LLureTown$Town;" : Cond) ∈ cw := cw_of (List.mem_append_right _ (List.mem_append_right _ (List.mem_append_left _ (List.mem_of_getElem? (i := 121) (by decide +kernel))))) (by decide +kernel)
theorem mw_lay_1_5 : (Cond.lays RX1 "LureTown$Course" "rule" "LLureTown$Rule;" : Cond) ∈ cw := cw_of (List.mem_append_right _ (List.mem_append_right _ (List.mem_append_left _ (List.mem_of_getElem? (i := 123) (by decide +kernel))))) (by decide +kernel)
theorem mw_lay_2_0 : (Cond.laysFinal RX2 "LureTown$Moment" "place" "LLureTown$Town;" : Cond) ∈ cw := cw_of (List.mem_append_right _ (List.mem_append_right _ (List.mem_append_left _ (List.mem_of_getElem? (i := 61) (by decide +kernel))))) (by decide +kernel)
theorem mw_lay_2_1 : (Cond.laysFinal RX2 "LureTown$Moment" "state" "LLureTown$State;" : Cond) ∈ cw := cw_of (List.mem_append_right _ (List.mem_append_right _ (List.mem_append_left _ (List.mem_of_getElem? (i := 63) (by decide +kernel))))) (by decide +kernel)
theorem mw_lay_2_2 : (Cond.laysFinal RX2 "LureTown$Moment" "notes" "LLureTown$Notes;" : Cond) ∈ cw := cw_of (List.mem_append_right _ (List.mem_append_right _ (List.mem_append_left _ (List.mem_of_getElem? (i := 65) (by decide +kernel))))) (by decide +kernel)
theorem mw_lay_2_3 : (Cond.lays RX2 "LureTown$Moment" "inForce" "I" : Cond) ∈ cw := cw_of (List.mem_append_right _ (List.mem_append_right _ (List.mem_append_left _ (List.mem_of_getElem? (i := 67) (by decide +kernel))))) (by decide +kernel)
theorem mw_lay_2_4 : (Cond.lays RX2 "LureTown$Moment" "x" "I" : Cond) ∈ cw := cw_of (List.mem_append_right _ (List.mem_append_right _ (List.mem_append_left _ (List.mem_of_getElem? (i := 69) (by decide +kernel))))) (by decide +kernel)
theorem mw_lay_3_0 : (Cond.lays RX3 "LureTown$Notes" "size" "I" : Cond) ∈ cw := cw_of (List.mem_append_right _ (List.mem_append_right _ (List.mem_append_left _ (List.mem_of_getElem? (i := 42) (by decide +kernel))))) (by decide +kernel)
theorem mw_lay_3_1 : (Cond.laysFinal RX3 "LureTown$Notes" "behind" "[I" : Cond) ∈ cw := cw_of (List.mem_append_right _ (List.mem_append_right _ (List.mem_append_left _ (List.mem_of_getElem? (i := 44) (by decide +kernel))))) (by decide +kernel)
theorem mw_lay_3_2 : (Cond.laysFinal RX3 "LureTown$Notes" "walkers" "[I" : Cond) ∈ cw := cw_of (List.mem_append_right _ (List.mem_append_right _ (List.mem_append_left _ (List.mem_of_getElem? (i := 46) (by decide +kernel))))) (by decide +kernel)
theorem mw_lay_3_3 : (Cond.laysFinal RX3 "LureTown$Notes" "corners" "[I" : Cond) ∈ cw := cw_of (List.mem_append_right _ (List.mem_append_right _ (List.mem_append_left _ (List.mem_of_getElem? (i := 48) (by decide +kernel))))) (by decide +kernel)
theorem mw_lay_4_0 : (Cond.lays RX4 "LureTown$Rule" "clauseCount" "I" : Cond) ∈ cw := cw_of (List.mem_append_right _ (List.mem_append_left _ (List.mem_of_getElem? (i := 214) (by decide +kernel)))) (by decide +kernel)
theorem mw_lay_4_1 : (Cond.laysFinal RX4 "LureTown$Rule" "code" "[I" : Cond) ∈ cw := cw_of (List.mem_append_right _ (List.mem_append_left _ (List.mem_of_getElem? (i := 216) (by decide +kernel)))) (by decide +kernel)
theorem mw_lay_4_2 : (Cond.lays RX4 "LureTown$Rule" "codeSize" "I" : Cond) ∈ cw := cw_of (List.mem_append_right _ (List.mem_append_left _ (List.mem_of_getElem? (i := 218) (by decide +kernel)))) (by decide +kernel)
theorem mw_lay_4_3 : (Cond.laysFinal RX4 "LureTown$Rule" "sumFrom" "[I" : Cond) ∈ cw := cw_of (List.mem_append_right _ (List.mem_append_left _ (List.mem_of_getElem? (i := 220) (by decide +kernel)))) (by decide +kernel)
theorem mw_lay_4_4 : (Cond.laysFinal RX4 "LureTown$Rule" "testFrom" "[I" : Cond) ∈ cw := cw_of (List.mem_append_right _ (List.mem_append_left _ (List.mem_of_getElem? (i := 222) (by decide +kernel)))) (by decide +kernel)
theorem mw_lay_4_5 : (Cond.laysFinal RX4 "LureTown$Rule" "stack" "[J" : Cond) ∈ cw := cw_of (List.mem_append_right _ (List.mem_append_left _ (List.mem_of_getElem? (i := 224) (by decide +kernel)))) (by decide +kernel)
theorem mw_lay_5_0 : (Cond.lays RX5 "LureTown$RuleReader" "tape" "LLureTown$Tape;" : Cond) ∈ cw := cw_of (List.mem_append_right _ (List.mem_append_left _ (List.mem_of_getElem? (i := 237) (by decide +kernel)))) (by decide +kernel)
theorem mw_lay_5_1 : (Cond.laysFinal RX5 "LureTown$RuleReader" "held" "[I" : Cond) ∈ cw := cw_of (List.mem_append_right _ (List.mem_append_left _ (List.mem_of_getElem? (i := 239) (by decide +kernel)))) (by decide +kernel)
theorem mw_lay_5_2 : (Cond.lays RX5 "LureTown$RuleReader" "heldCount" "I" : Cond) ∈ cw := cw_of (List.mem_append_right _ (List.mem_append_right _ (List.mem_append_left _ (List.mem_of_getElem? (i := 1) (by decide +kernel))))) (by decide +kernel)
theorem mw_lay_5_3 : (Cond.lays RX5 "LureTown$RuleReader" "depth" "I" : Cond) ∈ cw := cw_of (List.mem_append_right _ (List.mem_append_right _ (List.mem_append_left _ (List.mem_of_getElem? (i := 3) (by decide +kernel))))) (by decide +kernel)
theorem mw_lay_5_4 : (Cond.lays RX5 "LureTown$RuleReader" "brackets" "I" : Cond) ∈ cw := cw_of (List.mem_append_right _ (List.mem_append_right _ (List.mem_append_left _ (List.mem_of_getElem? (i := 5) (by decide +kernel))))) (by decide +kernel)
theorem mw_lay_5_5 : (Cond.lays RX5 "LureTown$RuleReader" "parts" "I" : Cond) ∈ cw := cw_of (List.mem_append_right _ (List.mem_append_right _ (List.mem_append_left _ (List.mem_of_getElem? (i := 7) (by decide +kernel))))) (by decide +kernel)
theorem mw_lay_5_6 : (Cond.lays RX5 "LureTown$RuleReader" "want" "I" : Cond) ∈ cw := cw_of (List.mem_append_right _ (List.mem_append_right _ (List.mem_append_left _ (List.mem_of_getElem? (i := 9) (by decide +kernel))))) (by decide +kernel)
theorem mw_lay_5_7 : (Cond.lays RX5 "LureTown$RuleReader" "side" "I" : Cond) ∈ cw := cw_of (List.mem_append_right _ (List.mem_append_right _ (List.mem_append_left _ (List.mem_of_getElem? (i := 11) (by decide +kernel))))) (by decide +kernel)
theorem mw_lay_5_8 : (Cond.lays RX5 "LureTown$RuleReader" "rule" "LLureTown$Rule;" : Cond) ∈ cw := cw_of (List.mem_append_right _ (List.mem_append_right _ (List.mem_append_left _ (List.mem_of_getElem? (i := 13) (by decide +kernel))))) (by decide +kernel)
theorem mw_lay_6_0 : (Cond.laysFinal RX6 "LureTown$State" "walkerCorner" "[I" : Cond) ∈ cw := cw_of (List.mem_append_right _ (List.mem_append_left _ (List.mem_of_getElem? (i := 116) (by decide +kernel)))) (by decide +kernel)
theorem mw_lay_6_1 : (Cond.laysFinal RX6 "LureTown$State" "walkerHeart" "[I" : Cond) ∈ cw := cw_of (List.mem_append_right _ (List.mem_append_left _ (List.mem_of_getElem? (i := 118) (by decide +kernel)))) (by decide +kernel)
theorem mw_lay_6_2 : (Cond.laysFinal RX6 "LureTown$State" "walkerWary" "[I" : Cond) ∈ cw := cw_of (List.mem_append_right _ (List.mem_append_left _ (List.mem_of_getElem? (i := 120) (by decide +kernel)))) (by decide +kernel)
theorem mw_lay_6_3 : (Cond.laysFinal RX6 "LureTown$State" "walkerCharge" "[I" : Cond) ∈ cw := cw_of (List.mem_append_right _ (List.mem_append_left _ (List.mem_of_getElem? (i := 122) (by decide +kernel)))) (by decide +kernel)
theorem mw_lay_6_4 : (Cond.laysFinal RX6 "LureTown$State" "lureCorner" "[I" : Cond) ∈ cw := cw_of (List.mem_append_right _ (List.mem_append_left _ (List.mem_of_getElem? (i := 124) (by decide +kernel)))) (by decide +kernel)
theorem mw_lay_6_5 : (Cond.laysFinal RX6 "LureTown$State" "lureKind" "[I" : Cond) ∈ cw := cw_of (List.mem_append_right _ (List.mem_append_left _ (List.mem_of_getElem? (i := 126) (by decide +kernel)))) (by decide +kernel)
theorem mw_lay_6_6 : (Cond.lays RX6 "LureTown$State" "setBits" "I" : Cond) ∈ cw := cw_of (List.mem_append_right _ (List.mem_append_left _ (List.mem_of_getElem? (i := 128) (by decide +kernel)))) (by decide +kernel)
theorem mw_lay_6_7 : (Cond.lays RX6 "LureTown$State" "steps" "I" : Cond) ∈ cw := cw_of (List.mem_append_right _ (List.mem_append_left _ (List.mem_of_getElem? (i := 130) (by decide +kernel)))) (by decide +kernel)
theorem mw_lay_7_0 : (Cond.laysFinal RX7 "LureTown$Tape" "bytes" "[B" : Cond) ∈ cw := cw_of (List.mem_append_right _ (List.mem_append_left _ (List.mem_of_getElem? (i := 50) (by decide +kernel)))) (by decide +kernel)
theorem mw_lay_7_1 : (Cond.lays RX7 "LureTown$Tape" "size" "I" : Cond) ∈ cw := cw_of (List.mem_append_right _ (List.mem_append_left _ (List.mem_of_getElem? (i := 52) (by decide +kernel)))) (by decide +kernel)
theorem mw_lay_7_2 : (Cond.lays RX7 "LureTown$Tape" "fault" "I" : Cond) ∈ cw := cw_of (List.mem_append_right _ (List.mem_append_left _ (List.mem_of_getElem? (i := 54) (by decide +kernel)))) (by decide +kernel)
theorem mw_lay_7_3 : (Cond.lays RX7 "LureTown$Tape" "token" "I" : Cond) ∈ cw := cw_of (List.mem_append_right _ (List.mem_append_left _ (List.mem_of_getElem? (i := 56) (by decide +kernel)))) (by decide +kernel)
theorem mw_lay_7_4 : (Cond.lays RX7 "LureTown$Tape" "number" "I" : Cond) ∈ cw := cw_of (List.mem_append_right _ (List.mem_append_left _ (List.mem_of_getElem? (i := 58) (by decide +kernel)))) (by decide +kernel)
theorem mw_lay_7_5 : (Cond.lays RX7 "LureTown$Tape" "start" "I" : Cond) ∈ cw := cw_of (List.mem_append_right _ (List.mem_append_left _ (List.mem_of_getElem? (i := 60) (by decide +kernel)))) (by decide +kernel)
theorem mw_lay_7_6 : (Cond.lays RX7 "LureTown$Tape" "reached" "I" : Cond) ∈ cw := cw_of (List.mem_append_right _ (List.mem_append_left _ (List.mem_of_getElem? (i := 62) (by decide +kernel)))) (by decide +kernel)
theorem mw_lay_8_0 : (Cond.lays RX8 "LureTown$Town" "cornerCount" "I" : Cond) ∈ cw := cw_of (List.mem_append_right _ (List.mem_append_left _ (List.mem_of_getElem? (i := 161) (by decide +kernel)))) (by decide +kernel)
theorem mw_lay_8_1 : (Cond.lays RX8 "LureTown$Town" "wayCount" "I" : Cond) ∈ cw := cw_of (List.mem_append_right _ (List.mem_append_left _ (List.mem_of_getElem? (i := 163) (by decide +kernel)))) (by decide +kernel)
theorem mw_lay_8_2 : (Cond.lays RX8 "LureTown$Town" "lureCount" "I" : Cond) ∈ cw := cw_of (List.mem_append_right _ (List.mem_append_left _ (List.mem_of_getElem? (i := 165) (by decide +kernel)))) (by decide +kernel)
theorem mw_lay_8_3 : (Cond.lays RX8 "LureTown$Town" "walkerCount" "I" : Cond) ∈ cw := cw_of (List.mem_append_right _ (List.mem_append_left _ (List.mem_of_getElem? (i := 167) (by decide +kernel)))) (by decide +kernel)
theorem mw_lay_8_4 : (Cond.laysFinal RX8 "LureTown$Town" "joined" "[I" : Cond) ∈ cw := cw_of (List.mem_append_right _ (List.mem_append_left _ (List.mem_of_getElem? (i := 169) (by decide +kernel)))) (by decide +kernel)
theorem mw_lay_8_5 : (Cond.laysFinal RX8 "LureTown$Town" "lureGuile" "[I" : Cond) ∈ cw := cw_of (List.mem_append_right _ (List.mem_append_left _ (List.mem_of_getElem? (i := 171) (by decide +kernel)))) (by decide +kernel)
theorem mw_lay_8_6 : (Cond.laysFinal RX8 "LureTown$Town" "lureCharge" "[I" : Cond) ∈ cw := cw_of (List.mem_append_right _ (List.mem_append_left _ (List.mem_of_getElem? (i := 173) (by decide +kernel)))) (by decide +kernel)
theorem mw_lay_8_7 : (Cond.laysFinal RX8 "LureTown$Town" "walkerHome" "[I" : Cond) ∈ cw := cw_of (List.mem_append_right _ (List.mem_append_left _ (List.mem_of_getElem? (i := 175) (by decide +kernel)))) (by decide +kernel)
theorem mw_lay_8_8 : (Cond.laysFinal RX8 "LureTown$Town" "told" "LLureTown$State;" : Cond) ∈ cw := cw_of (List.mem_append_right _ (List.mem_append_left _ (List.mem_of_getElem? (i := 177) (by decide +kernel)))) (by decide +kernel)
theorem mw_lay_8_9 : (Cond.laysFinal RX8 "LureTown$Town" "apart" "[I" : Cond) ∈ cw := cw_of (List.mem_append_right _ (List.mem_append_left _ (List.mem_of_getElem? (i := 179) (by decide +kernel)))) (by decide +kernel)
theorem mw_lay_9_0 : (Cond.lays RX9 "LureTown$TownReader" "tape" "LLureTown$Tape;" : Cond) ∈ cw := cw_of (List.mem_append_right _ (List.mem_append_left _ (List.mem_of_getElem? (i := 185) (by decide +kernel)))) (by decide +kernel)
theorem mw_lay_9_1 : (Cond.lays RX9 "LureTown$TownReader" "town" "LLureTown$Town;" : Cond) ∈ cw := cw_of (List.mem_append_right _ (List.mem_append_left _ (List.mem_of_getElem? (i := 187) (by decide +kernel)))) (by decide +kernel)
theorem mw_lay_9_2 : (Cond.laysFinal RX9 "LureTown$TownReader" "numbers" "[I" : Cond) ∈ cw := cw_of (List.mem_append_right _ (List.mem_append_left _ (List.mem_of_getElem? (i := 189) (by decide +kernel)))) (by decide +kernel)
theorem mw_oCode : (Cond.code Lib.objectInit ⟨#[0xb1]⟩ 1 none : Cond) ∈ cw := cw_of (List.mem_append_right _ (List.mem_append_left _ (List.mem_of_getElem? (i := 28) rfl))) (by decide +kernel)
theorem mw_oInst : (Cond.instanceMethod Lib.objectInit : Cond) ∈ cw := cw_of (List.mem_append_right _ (List.mem_append_left _ (List.mem_of_getElem? (i := 27) (by decide +kernel)))) (by decide +kernel)
theorem i_X0 : ∀ w ∈ u_ws RX0 TX0 3, w ∈ cw := by
  intro w hw
  obtain ⟨k, hk, rfl⟩ := List.mem_map.mp hw
  have hk := List.mem_range.mp hk
  match k, hk with
  | 0, _ => exact mw_lay_0_0
  | 1, _ => exact mw_lay_0_1
  | 2, _ => exact mw_lay_0_2
  | j + 3, h => exact absurd h (by omega)
theorem i_X1 : ∀ w ∈ u_ws RX1 TX1 6, w ∈ cw := by
  intro w hw
  obtain ⟨k, hk, rfl⟩ := List.mem_map.mp hw
  have hk := List.mem_range.mp hk
  match k, hk with
  | 0, _ => exact mw_lay_1_0
  | 1, _ => exact mw_lay_1_1
  | 2, _ => exact mw_lay_1_2
  | 3, _ => exact mw_lay_1_3
  | 4, _ => exact mw_lay_1_4
  | 5, _ => exact mw_lay_1_5
  | j + 6, h => exact absurd h (by omega)
theorem i_X2 : ∀ w ∈ u_ws RX2 TX2 5, w ∈ cw := by
  intro w hw
  obtain ⟨k, hk, rfl⟩ := List.mem_map.mp hw
  have hk := List.mem_range.mp hk
  match k, hk with
  | 0, _ => exact mw_lay_2_0
  | 1, _ => exact mw_lay_2_1
  | 2, _ => exact mw_lay_2_2
  | 3, _ => exact mw_lay_2_3
  | 4, _ => exact mw_lay_2_4
  | j + 5, h => exact absurd h (by omega)
theorem i_X3 : ∀ w ∈ u_ws RX3 TX3 4, w ∈ cw := by
  intro w hw
  obtain ⟨k, hk, rfl⟩ := List.mem_map.mp hw
  have hk := List.mem_range.mp hk
  match k, hk with
  | 0, _ => exact mw_lay_3_0
  | 1, _ => exact mw_lay_3_1
  | 2, _ => exact mw_lay_3_2
  | 3, _ => exact mw_lay_3_3
  | j + 4, h => exact absurd h (by omega)
theorem i_X4 : ∀ w ∈ u_ws RX4 TX4 6, w ∈ cw := by
  intro w hw
  obtain ⟨k, hk, rfl⟩ := List.mem_map.mp hw
  have hk := List.mem_range.mp hk
  match k, hk with
  | 0, _ => exact mw_lay_4_0
  | 1, _ => exact mw_lay_4_1
  | 2, _ => exact mw_lay_4_2
  | 3, _ => exact mw_lay_4_3
  | 4, _ => exact mw_lay_4_4
  | 5, _ => exact mw_lay_4_5
  | j + 6, h => exact absurd h (by omega)
theorem i_X5 : ∀ w ∈ u_ws RX5 TX5 9, w ∈ cw := by
  intro w hw
  obtain ⟨k, hk, rfl⟩ := List.mem_map.mp hw
  have hk := List.mem_range.mp hk
  match k, hk with
  | 0, _ => exact mw_lay_5_0
  | 1, _ => exact mw_lay_5_1
  | 2, _ => exact mw_lay_5_2
  | 3, _ => exact mw_lay_5_3
  | 4, _ => exact mw_lay_5_4
  | 5, _ => exact mw_lay_5_5
  | 6, _ => exact mw_lay_5_6
  | 7, _ => exact mw_lay_5_7
  | 8, _ => exact mw_lay_5_8
  | j + 9, h => exact absurd h (by omega)
theorem i_X6 : ∀ w ∈ u_ws RX6 TX6 8, w ∈ cw := by
  intro w hw
  obtain ⟨k, hk, rfl⟩ := List.mem_map.mp hw
  have hk := List.mem_range.mp hk
  match k, hk with
  | 0, _ => exact mw_lay_6_0
  | 1, _ => exact mw_lay_6_1
  | 2, _ => exact mw_lay_6_2
  | 3, _ => exact mw_lay_6_3
  | 4, _ => exact mw_lay_6_4
  | 5, _ => exact mw_lay_6_5
  | 6, _ => exact mw_lay_6_6
  | 7, _ => exact mw_lay_6_7
  | j + 8, h => exact absurd h (by omega)
theorem i_X7 : ∀ w ∈ u_ws RX7 TX7 7, w ∈ cw := by
  intro w hw
  obtain ⟨k, hk, rfl⟩ := List.mem_map.mp hw
  have hk := List.mem_range.mp hk
  match k, hk with
  | 0, _ => exact mw_lay_7_0
  | 1, _ => exact mw_lay_7_1
  | 2, _ => exact mw_lay_7_2
  | 3, _ => exact mw_lay_7_3
  | 4, _ => exact mw_lay_7_4
  | 5, _ => exact mw_lay_7_5
  | 6, _ => exact mw_lay_7_6
  | j + 7, h => exact absurd h (by omega)
theorem i_X8 : ∀ w ∈ u_ws RX8 TX8 10, w ∈ cw := by
  intro w hw
  obtain ⟨k, hk, rfl⟩ := List.mem_map.mp hw
  have hk := List.mem_range.mp hk
  match k, hk with
  | 0, _ => exact mw_lay_8_0
  | 1, _ => exact mw_lay_8_1
  | 2, _ => exact mw_lay_8_2
  | 3, _ => exact mw_lay_8_3
  | 4, _ => exact mw_lay_8_4
  | 5, _ => exact mw_lay_8_5
  | 6, _ => exact mw_lay_8_6
  | 7, _ => exact mw_lay_8_7
  | 8, _ => exact mw_lay_8_8
  | 9, _ => exact mw_lay_8_9
  | j + 10, h => exact absurd h (by omega)
theorem i_X9 : ∀ w ∈ u_ws RX9 TX9 3, w ∈ cw := by
  intro w hw
  obtain ⟨k, hk, rfl⟩ := List.mem_map.mp hw
  have hk := List.mem_range.mp hk
  match k, hk with
  | 0, _ => exact mw_lay_9_0
  | 1, _ => exact mw_lay_9_1
  | 2, _ => exact mw_lay_9_2
  | j + 3, h => exact absurd h (by omega)
theorem i_X10 : ∀ w ∈ u_ws RX10 TX10 17, w ∈ cw := by
  intro w hw
  obtain ⟨k, hk, rfl⟩ := List.mem_map.mp hw
  have hk := List.mem_range.mp hk
  match k, hk with
  | 0, _ => exact mw_lay_10_0
  | 1, _ => exact mw_lay_10_1
  | 2, _ => exact mw_lay_10_2
  | 3, _ => exact mw_lay_10_3
  | 4, _ => exact mw_lay_10_4
  | 5, _ => exact mw_lay_10_5
  | 6, _ => exact mw_lay_10_6
  | 7, _ => exact mw_lay_10_7
  | 8, _ => exact mw_lay_10_8
  | 9, _ => exact mw_lay_10_9
  | 10, _ => exact mw_lay_10_10
  | 11, _ => exact mw_lay_10_11
  | 12, _ => exact mw_lay_10_12
  | 13, _ => exact mw_lay_10_13
  | 14, _ => exact mw_lay_10_14
  | 15, _ => exact mw_lay_10_15
  | 16, _ => exact mw_lay_10_16
  | j + 17, h => exact absurd h (by omega)
theorem i_X11 : ∀ w ∈ u_ws RX11 TX11 37, w ∈ cw := by
  intro w hw
  obtain ⟨k, hk, rfl⟩ := List.mem_map.mp hw
  have hk := List.mem_range.mp hk
  match k, hk with
  | 0, _ => exact mw_lay_11_0
  | 1, _ => exact mw_lay_11_1
  | 2, _ => exact mw_lay_11_2
  | 3, _ => exact mw_lay_11_3
  | 4, _ => exact mw_lay_11_4
  | 5, _ => exact mw_lay_11_5
  | 6, _ => exact mw_lay_11_6
  | 7, _ => exact mw_lay_11_7
  | 8, _ => exact mw_lay_11_8
  | 9, _ => exact mw_lay_11_9
  | 10, _ => exact mw_lay_11_10
  | 11, _ => exact mw_lay_11_11
  | 12, _ => exact mw_lay_11_12
  | 13, _ => exact mw_lay_11_13
  | 14, _ => exact mw_lay_11_14
  | 15, _ => exact mw_lay_11_15
  | 16, _ => exact mw_lay_11_16
  | 17, _ => exact mw_lay_11_17
  | 18, _ => exact mw_lay_11_18
  | 19, _ => exact mw_lay_11_19
  | 20, _ => exact mw_lay_11_20
  | 21, _ => exact mw_lay_11_21
  | 22, _ => exact mw_lay_11_22
  | 23, _ => exact mw_lay_11_23
  | 24, _ => exact mw_lay_11_24
  | 25, _ => exact mw_lay_11_25
  | 26, _ => exact mw_lay_11_26
  | 27, _ => exact mw_lay_11_27
  | 28, _ => exact mw_lay_11_28
  | 29, _ => exact mw_lay_11_29
  | 30, _ => exact mw_lay_11_30
  | 31, _ => exact mw_lay_11_31
  | 32, _ => exact mw_lay_11_32
  | 33, _ => exact mw_lay_11_33
  | 34, _ => exact mw_lay_11_34
  | 35, _ => exact mw_lay_11_35
  | 36, _ => exact mw_lay_11_36
  | j + 37, h => exact absurd h (by omega)
theorem cls_in {ci : Nat} {C : String} {T : u_T} {N : Nat} (hc : classes[ci]? = some (C, T, N)) : ∀ w ∈ u_ws C T N, w ∈ cw := by
  match ci, hc with
  | 0, hc => cases hc; exact i_X0
  | 1, hc => cases hc; exact i_X1
  | 2, hc => cases hc; exact i_X2
  | 3, hc => cases hc; exact i_X3
  | 4, hc => cases hc; exact i_X4
  | 5, hc => cases hc; exact i_X5
  | 6, hc => cases hc; exact i_X6
  | 7, hc => cases hc; exact i_X7
  | 8, hc => cases hc; exact i_X8
  | 9, hc => cases hc; exact i_X9
  | 10, hc => cases hc; exact i_X10
  | 11, hc => cases hc; exact i_X11
  | k + 12, hc => simp [classes] at hc
end
section
abbrev tyK (K : Nat → ClassId) : List (ClassId × FieldType) := [(K 0, .int), (K 1, .byte), (K 2, .long), (K 3, .boolean), (K 4, .object "LureTown$Rule"), (K 5, .object "LureTown$Moment"), (K 6, .object "LureTown$State")]
def mPre (D : va_G) (K : Nat → ClassId) (ws : va_W) (sz : Nat) (av : List Value) : Array Value → State → Prop := va_Pc av (fun U => U.heap.size = sz ∧ va_P D classes ws U.heap ∧ va_K D classes (tyK K) U ∧ va_D (fun _ => True) ws)
theorem mPre_blind {D : va_G} {K : Nat → ClassId} {ws : va_W} {sz : Nat} {av : List Value} : FrameBlind (mPre D K ws sz av) := fun a U g mk q => by
  obtain ⟨q0, q1, qP, qK, qD⟩ := q
  exact ⟨q0, q1, qP, va_K.moved (u := U) (U := U.calling g mk a) (Vm.Alike.refl U.vm) qK, qD⟩
def mB {S : Type} (D : va_G) (A : Nat → Prop) (w2 : S → va_W) (u : S) (t : State) : Prop := va_P D classes (w2 u) t.heap ∧ va_D A (w2 u)
/-- contracts: an int answer, none, a long -/
def mI {S : Type} (l : Launch) (y : MethodName) (bytes : ByteArray) (maxL : Nat) (ret : FieldType) (rm : Room) (D : va_G) (K : Nat → ClassId) (ws : va_W) (av : List Value) (post : Int32 → S → Prop) (w2 : S → va_W) : Prop :=
  ∀ sz : Nat, Met l y (cwd y bytes maxL (some ret)) rm (mPre D K ws sz av) (va_Qi post (mB D (va_A ws sz) w2) (va_A ws sz)) rm.cells rm.slots (va_A ws sz)
def mV {S : Type} (l : Launch) (y : MethodName) (bytes : ByteArray) (maxL : Nat) (rm : Room) (D : va_G) (K : Nat → ClassId) (ws : va_W) (av : List Value) (post : S → Prop) (w2 : S → va_W) : Prop :=
  ∀ sz : Nat, Met l y (cwd y bytes maxL none) rm (mPre D K ws sz av) (va_Qv post (mB D (va_A ws sz) w2) (va_A ws sz)) rm.cells rm.slots (va_A ws sz)
/-- what is fixed while a method runs -/
def mE (p : Program) (s : State) (m : MethodId) (meth : Method) (c : Code) (cc : ByteArray) (args : Array Value) (nL : Nat) (own : String) (D : va_G) (K : Nat → ClassId) (A : Nat → Prop) : Prop :=
  p.tables.exec = Jvm.exec ∧ c.code = cc ∧ c.maxLocals = nL ∧ s.vm.findClass own = some m.cls ∧ (∀ w ∈ cw, w.before args s = true) ∧ va_K D classes (tyK K) s ∧ (∀ q : Nat, s.heap.size ≤ q → A q) ∧ meth.locks = false
/-- the world now -/
def mG (D : va_G) (A : Nat → Prop) (s : State) (H : Heap) (locs : List Loc) (ws : va_W) : Prop := va_P D classes ws H ∧ va_D A ws ∧ va_S A s.heap H locs
section MYE
variable {l : Launch} {y : MethodName} {bytes : ByteArray} {maxL : Nat} {rm : Room} {D : va_G} {K : Nat → ClassId} {ws : va_W} {av : List Value}
theorem m_enter {ret : Option FieldType} {Qc : (Nat → Prop) → Array Value → State → Outcome → State → Prop} {sz : Nat} (hy : plainName y.cls = true) (hn : (lg_sl av).length ≤ maxL)
    (body : ∀ (p : Program) (e : Env) (s : State) (m : MethodId) (args : Array Value) (below : List Frame) (meth : Method) (c : Code) (A : Nat → Prop) (ls : Array Slot), mE p s m meth c bytes args maxL y.cls D K A → meth.sig.returnType = ret → meth.name = y.name → mG D A s s.heap [] ws → lv_has ls maxL (lv_args 0 av) → W p l e rm s m args below meth c s.heap [] 0 0 (MQ below (Qc A) args s rm.cells rm.slots A) (F0 m 0 ls [])) :
    Met l y (cwd y bytes maxL ret) rm (mPre D K ws sz av) (Qc (va_A ws sz)) rm.cells rm.slots (va_A ws sz) := by
  refine Met.ofW (cc := bytes) (maxL := maxL) (ret := ret) hy rfl ?_
  intro p e s m args below meth c s₁ B hml hv
  obtain ⟨rfl, hsz, hP, hK, hD0⟩ := hv
  subst hsz
  have hts0 := atoms_spec (ws := cwd y bytes maxL ret) B.pre
  have hl := lv_entry av (n := maxL) hn
  rw [lg_entry_eq]
  exact body p e s m _ below meth c (va_A ws s.heap.size) _ ⟨B.exec, B.bytes, hml, findClass_of_methodNamed B.named, fun w hw => hts0 w (List.mem_cons_of_mem _ hw), hK, fun q h => Or.inr h, B.notSynchronized⟩ B.returns (name_of_methodNamed B.named B.method).1 ⟨hP, hD0.self, va_S.rf⟩ hl
theorem m_enterI {S : Type} {ret : FieldType} {post : Int32 → S → Prop} {w2 : S → va_W} (hy : plainName y.cls = true) (hn : (lg_sl av).length ≤ maxL)
    (body : ∀ (p : Program) (e : Env) (s : State) (m : MethodId) (args : Array Value) (below : List Frame) (meth : Method) (c : Code) (A : Nat → Prop) (ls : Array Slot), mE p s m meth c bytes args maxL y.cls D K A → meth.sig.returnType = some ret → mG D A s s.heap [] ws → lv_has ls maxL (lv_args 0 av) → W p l e rm s m args below meth c s.heap [] 0 0 (MQ below (va_Qi post (mB D A w2) A) args s rm.cells rm.slots A) (F0 m 0 ls [])) :
    mI l y bytes maxL ret rm D K ws av post w2 := fun _ => m_enter (Qc := fun A => va_Qi post (mB D A w2) A) hy hn (fun p e s m args below meth c A ls E hr _ G hl => body p e s m args below meth c A ls E hr G hl)
theorem m_enterV {S : Type} {post : S → Prop} {w2 : S → va_W} (hy : plainName y.cls = true) (hn : (lg_sl av).length ≤ maxL)
    (body : ∀ (p : Program) (e : Env) (s : State) (m : MethodId) (args : Array Value) (below : List Frame) (meth : Method) (c : Code) (A : Nat → Prop) (ls : Array Slot), mE p s m meth c bytes args maxL y.cls D K A → meth.sig.returnType = none → meth.name = y.name → mG D A s s.heap [] ws → lv_has ls maxL (lv_args 0 av) → W p l e rm s m args below meth c s.heap [] 0 0 (MQ below (va_Qv post (mB D A w2) A) args s rm.cells rm.slots A) (F0 m 0 ls [])) :
    mV l y bytes maxL rm D K ws av post w2 := fun _ => m_enter (Qc := fun A => va_Qv post (mB D A w2) A) hy hn (fun p e s m args below meth c A ls E hr hN G hl => body p e s m args below meth c A ls E hr hN G hl)
end MYE
section MY
variable {p : Program} {l : Launch} {e : Env} {R : Room} {s : State} {m : MethodId} {args : Array Value} {below : List Frame} {meth : Method} {c : Code} {H : Heap} {locs : List Loc} {cells slots : Nat} {Q : State → Prop}
variable {cc bytes : ByteArray} {nL maxL pc index : Nat} {ls : Array Slot} {rest : List Value} {D : va_G} {K : Nat → ClassId} {A : Nat → Prop} {a : Nat} {ws : va_W} {own : String}
theorem mG.sub {ws' : va_W} (G : mG D A s H locs ws) (is : List Nat) (hn : va_nd is = true) (hs : is.map (fun i => ws[i]?) = ws'.map some) : mG D A s H locs ws' := by
  refine ⟨fun k q hk => ?_, G.2.1.sub is hn hs, G.2.2⟩
  have h1 : (is.map (fun i => ws[i]?))[k]? = some (some q) := by rw [hs, List.getElem?_map, hk]; rfl
  rw [List.getElem?_map] at h1
  cases hi : is[k]? with
  | none => rw [hi] at h1; cases h1
  | some i => rw [hi] at h1; exact G.1 i q (Option.some.inj h1)
theorem m_get (E : mE p s m meth c cc args nL own D K A) (G : mG D A s H locs ws) (q0 : Nat) {ci : Nat} {fs : List Value} (he : ws[q0]? = some (a, .inr (ci, fs))) (k : Nat) {C : String} {T : u_T} {N : Nat} (hc : classes[ci]? = some (C, T, N)) (hk : k < N) (hl : Cond.fieldLink own index (T k).1 (T k).2.1 (T k).2.2.1 ∈ cw) {v : Value} (hv : fs[k]? = some v) (hdg : decode cc pc = .ok (.getfield index, 3))
    (kk : W p l e R s m args below meth c H locs cells slots Q (F0 m (pc + 3) ls (v :: rest))) : W p l e R s m args below meth c H locs cells slots Q (F0 m pc ls (.ref a :: rest)) :=
  va_get E.1 E.2.1 E.2.2.2.2.1 (cls_in hc) E.2.2.2.1 E.2.2.2.2.2.1 G.1 q0 he hc k hk (E.2.2.2.2.1 _ hl) (fun _ h => h) hv hdg kk
theorem m_put (E : mE p s m meth c cc args nL own D K A) (G : mG D A s H locs ws) (q0 : Nat) {ci : Nat} {fs : List Value} (he : ws[q0]? = some (a, .inr (ci, fs))) (k : Nat) {C : String} {T : u_T} {N : Nat} (hc : classes[ci]? = some (C, T, N)) (hk : k < N) (hl : Cond.fieldLink own index (T k).1 (T k).2.1 (T k).2.2.1 ∈ cw) (hfin : (T k).2.2.2 = false) {v : Value} (hn : narrow (cls_ty ci k) v = v) (hfit : fits (cls_ty ci k) v = true) (hlen : k < fs.length) (hdg : decode cc pc = .ok (.putfield index, 3))
    (kk : ∀ (H1 : Heap) (locs1 : List Loc), mG D A s H1 locs1 (ws.set q0 (a, .inr (ci, fs.set k v))) → W p l e R s m args below meth c H1 locs1 cells slots Q (F0 m (pc + 3) ls rest)) : W p l e R s m args below meth c H locs cells slots Q (F0 m pc ls (v :: .ref a :: rest)) :=
  va_put E.1 E.2.1 E.2.2.2.2.1 (cls_in hc) (cls_ty ci) (cls_tyok hc) (cls_nm hc) E.2.2.2.1 E.2.2.2.2.2.1 G.1 G.2.1 G.2.2 q0 he hc k hk (E.2.2.2.2.1 _ hl) (fun _ h => h) hfin (cls_tyok hc k hk) hn hfit hlen hdg (fun H1 l1 h1 h2 h3 => kk H1 l1 ⟨h1, h2, h3⟩)
theorem m_putF (E : mE p s m meth c cc args nL own D K A) (G : mG D A s H locs ws) (hN : meth.name = "<init>") (q0 : Nat) {ci : Nat} {fs : List Value} (he : ws[q0]? = some (a, .inr (ci, fs))) (k : Nat) {C : String} {T : u_T} {N : Nat} (hc : classes[ci]? = some (C, T, N)) (hk : k < N) (hl : Cond.fieldLink own index (T k).1 (T k).2.1 (T k).2.2.1 ∈ cw) (hfin : (T k).2.2.2 = true) (hdecl : (T k).1 = own) {v : Value} (hn : narrow (cls_ty ci k) v = v) (hfit : fits (cls_ty ci k) v = true) (hlen : k < fs.length) (hdg : decode cc pc = .ok (.putfield index, 3))
    (kk : ∀ (H1 : Heap) (locs1 : List Loc), mG D A s H1 locs1 (ws.set q0 (a, .inr (ci, fs.set k v))) → W p l e R s m args below meth c H1 locs1 cells slots Q (F0 m (pc + 3) ls rest)) : W p l e R s m args below meth c H locs cells slots Q (F0 m pc ls (v :: .ref a :: rest)) :=
  va_putF E.1 E.2.1 E.2.2.2.2.1 (cls_in hc) (cls_ty ci) (cls_tyok hc) (cls_nm hc) E.2.2.2.1 E.2.2.2.2.2.1 G.1 G.2.1 G.2.2 q0 he hc k hk (E.2.2.2.2.1 _ hl) (fun _ h => h) hfin hN hdecl (cls_tyok hc k hk) hn hfit hlen hdg (fun H1 l1 h1 h2 h3 => kk H1 l1 ⟨h1, h2, h3⟩)
theorem m_iald (E : mE p s m meth c cc args nL own D K A) (G : mG D A s H locs ws) (q0 : Nat) {n : Nat} {f : Nat → Int32} (ha : ws[q0]? = some (a, .inl (K 0, n, .inl f))) {i : Int32} (hin : vp_in i n) (hdg : decode cc pc = .ok (.iaload, 1))
    (kk : W p l e R s m args below meth c H locs cells slots Q (F0 m (pc + 1) ls (.int (f i.toNatClampNeg) :: rest))) : W p l e R s m args below meth c H locs cells slots Q (F0 m pc ls (.int i :: .ref a :: rest)) := va_iald E.1 E.2.1 E.2.2.2.2.2.1 G.1 q0 0 ha rfl hin hdg kk
theorem m_bald (E : mE p s m meth c cc args nL own D K A) (G : mG D A s H locs ws) (q0 : Nat) {n : Nat} {f : Nat → Int32} (ha : ws[q0]? = some (a, .inl (K 1, n, .inl f))) {i : Int32} (hin : vp_in i n) (hdg : decode cc pc = .ok (.baload, 1))
    (kk : W p l e R s m args below meth c H locs cells slots Q (F0 m (pc + 1) ls (.int (f i.toNatClampNeg) :: rest))) : W p l e R s m args below meth c H locs cells slots Q (F0 m pc ls (.int i :: .ref a :: rest)) := va_bald E.1 E.2.1 E.2.2.2.2.2.1 G.1 q0 1 ha rfl hin hdg kk
theorem m_lald (E : mE p s m meth c cc args nL own D K A) (G : mG D A s H locs ws) (q0 : Nat) {n : Nat} {f : Nat → Int64} (ha : ws[q0]? = some (a, .inl (K 2, n, .inr (.inl f)))) {i : Int32} (hin : vp_in i n) (hdg : decode cc pc = .ok (.laload, 1))
    (kk : W p l e R s m args below meth c H locs cells slots Q (F0 m (pc + 1) ls (.long (f i.toNatClampNeg) :: rest))) : W p l e R s m args below meth c H locs cells slots Q (F0 m pc ls (.int i :: .ref a :: rest)) := va_lald E.1 E.2.1 E.2.2.2.2.2.1 G.1 q0 2 ha rfl hin hdg kk
theorem m_zald (E : mE p s m meth c cc args nL own D K A) (G : mG D A s H locs ws) (q0 : Nat) {n : Nat} {f : Nat → Int32} (ha : ws[q0]? = some (a, .inl (K 3, n, .inl f))) {i : Int32} (hin : vp_in i n) (hdg : decode cc pc = .ok (.baload, 1))
    (kk : W p l e R s m args below meth c H locs cells slots Q (F0 m (pc + 1) ls (.int (f i.toNatClampNeg) :: rest))) : W p l e R s m args below meth c H locs cells slots Q (F0 m pc ls (.int i :: .ref a :: rest)) := va_zald E.1 E.2.1 E.2.2.2.2.2.1 G.1 q0 3 ha rfl hin hdg kk
theorem m_aald (E : mE p s m meth c cc args nL own D K A) (G : mG D A s H locs ws) (q0 t0 : Nat) {cA : ClassId} {C : String} {n : Nat} {f : Nat → Option Nat} (ha : ws[q0]? = some (a, .inl (cA, n, .inr (.inr (.inr (.inr f)))))) (ht : (tyK K)[t0]? = some (cA, .object C)) {i : Int32} (hin : vp_in i n) {v : Value} (hv : va_rf (f i.toNatClampNeg) = v) (hdg : decode cc pc = .ok (.aaload, 1))
    (kk : W p l e R s m args below meth c H locs cells slots Q (F0 m (pc + 1) ls (v :: rest))) : W p l e R s m args below meth c H locs cells slots Q (F0 m pc ls (.int i :: .ref a :: rest)) := va_aldq E.1 E.2.1 E.2.2.2.2.2.1 G.1 q0 t0 ha ht hin hdg (by rw [hv]; exact kk)
theorem m_iast (E : mE p s m meth c cc args nL own D K A) (G : mG D A s H locs ws) (q0 : Nat) {n : Nat} {f : Nat → Int32} (ha : ws[q0]? = some (a, .inl (K 0, n, .inl f))) {i x : Int32} (hin : vp_in i n) (hdg : decode cc pc = .ok (.iastore, 1))
    (kk : ∀ (H1 : Heap) (locs1 : List Loc), mG D A s H1 locs1 (ws.set q0 (a, .inl (K 0, n, .inl (upd f i.toNatClampNeg x)))) → W p l e R s m args below meth c H1 locs1 cells slots Q (F0 m (pc + 1) ls rest)) : W p l e R s m args below meth c H locs cells slots Q (F0 m pc ls (.int x :: .int i :: .ref a :: rest)) := va_iast E.1 E.2.1 E.2.2.2.2.2.1 G.1 G.2.1 G.2.2 q0 0 ha rfl hin hdg (fun H1 l1 h1 h2 h3 => kk H1 l1 ⟨h1, h2, h3⟩)
theorem m_bast (E : mE p s m meth c cc args nL own D K A) (G : mG D A s H locs ws) (q0 : Nat) {n : Nat} {f : Nat → Int32} (ha : ws[q0]? = some (a, .inl (K 1, n, .inl f))) {i x : Int32} (hin : vp_in i n) (hdg : decode cc pc = .ok (.bastore, 1))
    (kk : ∀ (H1 : Heap) (locs1 : List Loc), mG D A s H1 locs1 (ws.set q0 (a, .inl (K 1, n, .inl (upd f i.toNatClampNeg (vp_nar .byte x))))) → W p l e R s m args below meth c H1 locs1 cells slots Q (F0 m (pc + 1) ls rest)) : W p l e R s m args below meth c H locs cells slots Q (F0 m pc ls (.int x :: .int i :: .ref a :: rest)) := va_bast E.1 E.2.1 E.2.2.2.2.2.1 G.1 G.2.1 G.2.2 q0 1 ha rfl hin hdg (fun H1 l1 h1 h2 h3 => kk H1 l1 ⟨h1, h2, h3⟩)
theorem m_zast (E : mE p s m meth c cc args nL own D K A) (G : mG D A s H locs ws) (q0 : Nat) {n : Nat} {f : Nat → Int32} (ha : ws[q0]? = some (a, .inl (K 3, n, .inl f))) {i x : Int32} (hin : vp_in i n) (hdg : decode cc pc = .ok (.bastore, 1))
    (kk : ∀ (H1 : Heap) (locs1 : List Loc), mG D A s H1 locs1 (ws.set q0 (a, .inl (K 3, n, .inl (upd f i.toNatClampNeg (vp_nar .boolean x))))) → W p l e R s m args below meth c H1 locs1 cells slots Q (F0 m (pc + 1) ls rest)) : W p l e R s m args below meth c H locs cells slots Q (F0 m pc ls (.int x :: .int i :: .ref a :: rest)) := va_zast E.1 E.2.1 E.2.2.2.2.2.1 G.1 G.2.1 G.2.2 q0 3 ha rfl hin hdg (fun H1 l1 h1 h2 h3 => kk H1 l1 ⟨h1, h2, h3⟩)
theorem m_aast (E : mE p s m meth c cc args nL own D K A) (G : mG D A s H locs ws) (q0 t0 qk : Nat) {ci : Nat} {cA : ClassId} {r : vw_C} {n v : Nat} {vs : List Value} {f : Nat → Option Nat} (ha : ws[q0]? = some (a, .inl (cA, n, .inr (.inr (.inr (.inr f)))))) (ht : (tyK K)[t0]? = some (cA, .object r.1)) (hv : ws[qk]? = some (v, .inr (ci, vs))) (hc : classes[ci]? = some r) {i : Int32} (hin : vp_in i n) (hdg : decode cc pc = .ok (.aastore, 1))
    (kk : ∀ (H1 : Heap) (locs1 : List Loc), mG D A s H1 locs1 (ws.set q0 (a, .inl (cA, n, .inr (.inr (.inr (.inr (va_up f i.toNatClampNeg (some v)))))))) → W p l e R s m args below meth c H1 locs1 cells slots Q (F0 m (pc + 1) ls rest)) : W p l e R s m args below meth c H locs cells slots Q (F0 m pc ls (.ref v :: .int i :: .ref a :: rest)) := va_astq E.1 E.2.1 E.2.2.2.2.2.1 G.1 G.2.1 G.2.2 q0 t0 qk ci ha ht hv hc hin hdg (fun H1 l1 h1 h2 h3 => kk H1 l1 ⟨h1, h2, h3⟩)
theorem m_alen (E : mE p s m meth c cc args nL own D K A) (G : mG D A s H locs ws) (q0 t0 : Nat) {cA : ClassId} {x : vp_A} (ha : ws[q0]? = some (a, .inl (cA, x))) {ty : FieldType} (ht : (tyK K)[t0]? = some (cA, ty)) {v : Int32} (hv : Int32.ofNat x.1 = v) (hdg : decode cc pc = .ok (.arraylength, 1))
    (kk : W p l e R s m args below meth c H locs cells slots Q (F0 m (pc + 1) ls (.int v :: rest))) : W p l e R s m args below meth c H locs cells slots Q (F0 m pc ls (.ref a :: rest)) := va_alen E.1 E.2.1 E.2.2.2.2.2.1 G.1 q0 t0 ha ht hv hdg kk
/-- one class of arrays for each element -/
theorem mK_one {cA : ClassId} {ty : FieldType} {t0 : Nat} (hK : va_K D classes (tyK K) s) (hK2 : va_K D classes (tyK K ++ [(cA, ty)]) s) (ht : (tyK K)[t0]? = some (K t0, ty)) : cA = K t0 := by
  have h1 := (hK.2 t0 _ ht).2
  have h2 := (hK2.2 7 (cA, ty) rfl).2
  cases ty with
  | object C =>
    obtain ⟨-, -, -, -, -, e1⟩ := h1
    obtain ⟨-, -, -, -, -, e2⟩ := h2
    exact Option.some.inj (e2.symm.trans e1)
  | _ => exact Option.some.inj (h2.symm.trans h1)
theorem m_newi (E : mE p s m meth c cc args nL own D K A) (G : mG D A s H locs ws) {n : Int32} {N' : Nat} (hn : ¬ n < 0) (hN : n.toNatClampNeg = N') (hbytes : N' * 4 ≤ 536870912) (hcells : cells + 1 ≤ R.cells) (hslots : slots + N' ≤ R.slots) (hdg : decode cc pc = .ok (.newarray .int, 2))
    (kk : ∀ (q : Nat) (H1 : Heap), mG D A s H1 locs (ws ++ [(q, .inl (K 0, N', .inl (fun _ => 0)))]) → W p l e R s m args below meth c H1 locs (cells + 1) (slots + N') Q (F0 m (pc + 2) ls (.ref q :: rest))) : W p l e R s m args below meth c H locs cells slots Q (F0 m pc ls (.int n :: rest)) :=
  va_newa E.1 E.2.1 (atype := .int) (ty := .int) (E.2.2.2.2.1 _ mw_aInt) rfl E.2.2.2.2.2.1 G.1 G.2.1 G.2.2 E.2.2.2.2.2.2.1 (a0 := (N', .inl (fun _ => 0))) (fun _ => rfl) hn hN hbytes hcells hslots hdg (fun q cA H1 k1 h1 h2 h3 => by
    have e1 := mK_one (t0 := 0) E.2.2.2.2.2.1 k1 rfl
    subst e1
    exact kk q H1 ⟨h1, h2, h3⟩)
theorem m_newb (E : mE p s m meth c cc args nL own D K A) (G : mG D A s H locs ws) {n : Int32} {N' : Nat} (hn : ¬ n < 0) (hN : n.toNatClampNeg = N') (hbytes : N' * 1 ≤ 536870912) (hcells : cells + 1 ≤ R.cells) (hslots : slots + N' ≤ R.slots) (hdg : decode cc pc = .ok (.newarray .byte, 2))
    (kk : ∀ (q : Nat) (H1 : Heap), mG D A s H1 locs (ws ++ [(q, .inl (K 1, N', .inl (fun _ => 0)))]) → W p l e R s m args below meth c H1 locs (cells + 1) (slots + N') Q (F0 m (pc + 2) ls (.ref q :: rest))) : W p l e R s m args below meth c H locs cells slots Q (F0 m pc ls (.int n :: rest)) :=
  va_newa E.1 E.2.1 (atype := .byte) (ty := .byte) (E.2.2.2.2.1 _ mw_aByte) rfl E.2.2.2.2.2.1 G.1 G.2.1 G.2.2 E.2.2.2.2.2.2.1 (a0 := (N', .inl (fun _ => 0))) (fun _ => rfl) hn hN hbytes hcells hslots hdg (fun q cA H1 k1 h1 h2 h3 => by
    have e1 := mK_one (t0 := 1) E.2.2.2.2.2.1 k1 rfl
    subst e1
    exact kk q H1 ⟨h1, h2, h3⟩)
theorem m_newl (E : mE p s m meth c cc args nL own D K A) (G : mG D A s H locs ws) {n : Int32} {N' : Nat} (hn : ¬ n < 0) (hN : n.toNatClampNeg = N') (hbytes : N' * 8 ≤ 536870912) (hcells : cells + 1 ≤ R.cells) (hslots : slots + N' ≤ R.slots) (hdg : decode cc pc = .ok (.newarray .long, 2))
    (kk : ∀ (q : Nat) (H1 : Heap), mG D A s H1 locs (ws ++ [(q, .inl (K 2, N', .inr (.inl (fun _ => 0))))]) → W p l e R s m args below meth c H1 locs (cells + 1) (slots + N') Q (F0 m (pc + 2) ls (.ref q :: rest))) : W p l e R s m args below meth c H locs cells slots Q (F0 m pc ls (.int n :: rest)) :=
  va_newa E.1 E.2.1 (atype := .long) (ty := .long) (E.2.2.2.2.1 _ mw_aLong) rfl E.2.2.2.2.2.1 G.1 G.2.1 G.2.2 E.2.2.2.2.2.2.1 (a0 := (N', .inr (.inl (fun _ => 0)))) (fun _ => rfl) hn hN hbytes hcells hslots hdg (fun q cA H1 k1 h1 h2 h3 => by
    have e1 := mK_one (t0 := 2) E.2.2.2.2.2.1 k1 rfl
    subst e1
    exact kk q H1 ⟨h1, h2, h3⟩)
theorem m_newz (E : mE p s m meth c cc args nL own D K A) (G : mG D A s H locs ws) {n : Int32} {N' : Nat} (hn : ¬ n < 0) (hN : n.toNatClampNeg = N') (hbytes : N' * 1 ≤ 536870912) (hcells : cells + 1 ≤ R.cells) (hslots : slots + N' ≤ R.slots) (hdg : decode cc pc = .ok (.newarray .boolean, 2))
    (kk : ∀ (q : Nat) (H1 : Heap), mG D A s H1 locs (ws ++ [(q, .inl (K 3, N', .inl (fun _ => 0)))]) → W p l e R s m args below meth c H1 locs (cells + 1) (slots + N') Q (F0 m (pc + 2) ls (.ref q :: rest))) : W p l e R s m args below meth c H locs cells slots Q (F0 m pc ls (.int n :: rest)) :=
  va_newa E.1 E.2.1 (atype := .boolean) (ty := .boolean) (E.2.2.2.2.1 _ mw_aBool) rfl E.2.2.2.2.2.1 G.1 G.2.1 G.2.2 E.2.2.2.2.2.2.1 (a0 := (N', .inl (fun _ => 0))) (fun _ => rfl) hn hN hbytes hcells hslots hdg (fun q cA H1 k1 h1 h2 h3 => by
    have e1 := mK_one (t0 := 3) E.2.2.2.2.2.1 k1 rfl
    subst e1
    exact kk q H1 ⟨h1, h2, h3⟩)
theorem m_newq (E : mE p s m meth c cc args nL own D K A) (G : mG D A s H locs ws) (t0 : Nat) {C : String} (ht : (tyK K)[t0]? = some (K t0, .object C)) (ho : Cond.arrayOver (.object C) ∈ cw) (hcl : Cond.classLink own index C ∈ cw) {n : Int32} {N' : Nat} (hn : ¬ n < 0) (hN : n.toNatClampNeg = N') (hbytes : N' * 4 ≤ 536870912) (hcells : cells + 1 ≤ R.cells) (hslots : slots + N' ≤ R.slots) (hdg : decode cc pc = .ok (.anewarray index, 3))
    (kk : ∀ (q : Nat) (H1 : Heap), mG D A s H1 locs (ws ++ [(q, .inl (K t0, N', .inr (.inr (.inr (.inr (fun _ => none))))))]) → W p l e R s m args below meth c H1 locs (cells + 1) (slots + N') Q (F0 m (pc + 3) ls (.ref q :: rest))) : W p l e R s m args below meth c H locs cells slots Q (F0 m pc ls (.int n :: rest)) :=
  va_newq E.1 E.2.1 E.2.2.2.1 (E.2.2.2.2.1 _ hcl) (va_AO.of (E.2.2.2.2.1 _ ho)) E.2.2.2.2.2.1 G.1 G.2.1 G.2.2 E.2.2.2.2.2.2.1 hn hN hbytes hcells hslots hdg (fun q cA H1 k1 h1 h2 h3 => by
    have e1 := mK_one (t0 := t0) E.2.2.2.2.2.1 k1 ht
    subst e1
    exact kk q H1 ⟨h1, h2, h3⟩)
theorem m_new (E : mE p s m meth c cc args nL own D K A) (G : mG D A s H locs ws) (ci : Nat) {C : String} {T : u_T} {N : Nat} (hc : classes[ci]? = some (C, T, N)) {fs : List Value} (hfs : ∀ j, j < N → defaultValue (cls_ty ci j) = vp_V fs j) (hcl : Cond.classLink own index C ∈ cw) (hin : Cond.instantiable C N ∈ cw) (hini : Cond.initialized C ∈ cw) (hcells : cells + 1 ≤ R.cells) (hslots : slots + N ≤ R.slots) (hdg : decode cc pc = .ok (.new index, 3))
    (kk : ∀ (q : Nat) (H1 : Heap), mG D A s H1 locs (ws ++ [(q, .inr (ci, fs))]) → W p l e R s m args below meth c H1 locs (cells + 1) (slots + N) Q (F0 m (pc + 3) ls (.ref q :: rest))) : W p l e R s m args below meth c H locs cells slots Q (F0 m pc ls rest) :=
  va_new E.1 E.2.1 E.2.2.2.2.1 (cls_in hc) (cls_ty ci) (cls_tyok hc) E.2.2.2.1 (E.2.2.2.2.1 _ hcl) (E.2.2.2.2.1 _ hin) (E.2.2.2.2.1 _ hini) E.2.2.2.2.2.1 G.1 G.2.1 G.2.2 E.2.2.2.2.2.2.1 hc hfs hcells hslots hdg (fun q H1 h1 h2 h3 => kk q H1 ⟨h1, h2, h3⟩)
theorem m_ci {x : Int32} (v : Int32) (hv : x = v) (kk : W p l e R s m args below meth c H locs cells slots Q (F0 m pc ls (.int v :: rest))) : W p l e R s m args below meth c H locs cells slots Q (F0 m pc ls (.int x :: rest)) := hv ▸ kk
theorem m_objInit {lvs : List (Nat × Value)} (E : mE p s m meth c cc args nL own D K A) (hl : lv_has ls nL lvs) (hlk : Cond.methodLink own index Lib.objectInit ∈ cw) (hd : decode cc pc = .ok (.invokespecial index, 3)) (hframes : 1 ≤ R.frames) (hroom : (rest.map fun v => v.category).sum ≤ 8) (hlocals : 20 ≤ R.locals)
    (kk : W p l e R s m args below meth c H locs cells slots Q (F0 m (pc + 3) ls rest)) : W p l e R s m args below meth c H locs cells slots Q (F0 m pc ls (.ref a :: rest)) :=
  W.objInit E.1 E.2.1 E.2.2.2.1 (E.2.2.2.2.1 _ hlk) (E.2.2.2.2.1 _ mw_oInst) (E.2.2.2.2.1 _ mw_oCode) rfl (by rw [E.2.2.1]; exact hl.1) rfl hd hframes (Nat.le_trans (Nat.add_le_add_right (lv_room hroom) 12) hlocals) kk
/-- a call's world: the callee's part out of the caller's, the rest stays -/
theorem m_free {wc : va_W} (E : mE p s m meth c cc args nL own D K A) (G : mG D A s H locs ws) (isC : List Nat) (hC : isC.map (fun i => ws[i]?) = wc.map some) : ∀ q, va_A wc H.size q → A q := va_free G.2.1 G.2.2 E.2.2.2.2.2.2.1 isC hC
theorem m_pre {wc : va_W} {av : List Value} (E : mE p s m meth c cc args nL own D K A) (G : mG D A s H locs ws) (isC : List Nat) (hn : va_nd isC = true) (hC : isC.map (fun i => ws[i]?) = wc.map some) : ∀ U : State, U.heap = H → s.WarmedH U.vm → mPre D K wc H.size av av.toArray U := fun U hU hW => by
  have G1 := G.sub (ws' := wc) isC hn hC
  exact ⟨rfl, by rw [hU], by rw [hU]; exact G1.1, va_K.moved hW.alike E.2.2.2.2.2.1, G1.2.1.weaken (fun _ _ _ _ => trivial)⟩
theorem m_callB {y : MethodName} {ret : Option FieldType} {rm : Room} (E : mE p s m meth c cc args nL own D K A) (n : Nat) (hcode : Cond.code y bytes maxL ret ∈ cw) (hini : Cond.initialized y.cls ∈ cw) (hlk : Cond.methodLink own index y ∈ cw) (hd : y.cls ≠ "java/lang/invoke/MethodHandle" ∧ y.cls ≠ "java/lang/invoke/VarHandle" ∧ (parseMethodDescriptor y.desc).map (fun d => d.parameters.length) = some n) (hR : rm.frames + 1 ≤ R.frames ∧ 8 + (maxL + 11) + rm.locals ≤ R.locals) :
    CallB R s args own index y bytes maxL ret (cwd y bytes maxL ret) rm rm.cells rm.slots n := by
  refine ⟨rfl, rfl, hR.1, hR.2, cwd_warm E.2.2.2.2.1 hcode, List.mem_cons_self, E.2.2.2.2.1 _ hcode, E.2.2.2.2.1 _ hini, ⟨hd.1, hd.2.1⟩, fun sig h => ?_, E.2.2.2.2.1 _ hlk⟩
  have h2 := hd.2.2
  rw [h] at h2
  exact (Option.some.inj h2).symm
theorem m_callN {y : MethodName} {ret : Option FieldType} {rm : Room} {host : String} (E : mE p s m meth c cc args nL own D K A) (n : Nat) (hcode : Cond.code y bytes maxL ret ∈ cw) (hini : Cond.initialized y.cls ∈ cw) (hlk : Cond.methodLinkNest own index y host ∈ cw) (hd : y.cls ≠ "java/lang/invoke/MethodHandle" ∧ y.cls ≠ "java/lang/invoke/VarHandle" ∧ (parseMethodDescriptor y.desc).map (fun d => d.parameters.length) = some n) (hR : rm.frames + 1 ≤ R.frames ∧ 8 + (maxL + 11) + rm.locals ≤ R.locals) :
    va_CN R s args own index y host bytes maxL ret (cwd y bytes maxL ret) rm rm.cells rm.slots n := by
  refine ⟨⟨rfl, rfl, hR.1, hR.2, cwd_warm E.2.2.2.2.1 hcode, List.mem_cons_self⟩, E.2.2.2.2.1 _ hcode, E.2.2.2.2.1 _ hini, ⟨hd.1, hd.2.1⟩, fun sig h => ?_, E.2.2.2.2.1 _ hlk⟩
  have h2 := hd.2.2
  rw [h] at h2
  exact (Option.some.inj h2).symm
/-- invokevirtual, an int answer -/
theorem m_vi {S : Type} {y : MethodName} {ret : FieldType} {rm : Room} {wc wr : va_W} {b : Nat} {As : List Value} {post : Int32 → S → Prop} {w2 : S → va_W} {st0 : List Value} {lvs : List (Nat × Value)} (E : mE p s m meth c cc args nL own D K A) (G : mG D A s H locs ws) (hl : lv_has ls nL lvs) (hM : mI l y bytes maxL ret rm D K wc (.ref b :: As) post w2) (isC isR : List Nat) (hC : isC.map (fun i => ws[i]?) = wc.map some) (hR : isR.map (fun i => ws[i]?) = wr.map some) (hnC : va_nd isC = true) (hnR : va_nd isR = true) (hdis : ∀ i ∈ isR, i ∉ isC)
    (q0 : Nat) {ci : Nat} {fs : List Value} {r : vw_C} (he : wc[q0]? = some (b, .inr (ci, fs))) (hc : classes[ci]? = some r) (hy : r.1 = y.cls) (n : Nat) (hn : As.length = n) (hcode : Cond.code y bytes maxL (some ret) ∈ cw) (hini : Cond.initialized y.cls ∈ cw) (hlk : Cond.methodLink own index y ∈ cw) (hin : Cond.instanceMethod y ∈ cw) (hsel : Cond.selects y.cls y y ∈ cw) (hd : y.cls ≠ "java/lang/invoke/MethodHandle" ∧ y.cls ≠ "java/lang/invoke/VarHandle" ∧ (parseMethodDescriptor y.desc).map (fun d => d.parameters.length) = some n) (hRm : rm.frames + 1 ≤ R.frames ∧ 8 + (maxL + 11) + rm.locals ≤ R.locals)
    (hst : st0 = As.reverse ++ .ref b :: rest) (hw : (rest.map fun v => v.category).sum ≤ 8) (hf : cells + rm.cells ≤ R.cells ∧ slots + rm.slots ≤ R.slots) (hdg : decode cc pc = .ok (.invokevirtual index, 3))
    (kk : ∀ (r1 : Int32) (u : S) (H1 : Heap) (locs1 : List Loc), post r1 u → mG D A s H1 locs1 (wr ++ w2 u) → W p l e R s m args below meth c H1 locs1 (cells + rm.cells) (slots + rm.slots) Q (F0 m (pc + 3) ls (.int r1 :: rest))) : W p l e R s m args below meth c H locs cells slots Q (F0 m pc ls st0) := by
  have hF := m_free E G isC hC
  have G1 := G.sub (ws' := wc) isC hnC hC
  have hrec := va_recv E.2.2.2.2.2.1 G1.1 hc he
  rw [hy] at hrec
  refine va_calli (va_runV (As := As) (rest := rest) (n := n) (nL := nL) (C := y.cls) (Ts := cw) ⟨E.1, E.2.1, E.2.2.1, E.2.2.2.1, E.2.2.2.2.1⟩ (hM H.size) ⟨m_callB E n hcode hini hlk hd hRm, E.2.2.2.2.1 _ hin, E.2.2.2.2.1 _ hsel⟩ ⟨mPre_blind, hrec, m_pre E G isC hnC hC⟩ rfl hn hl.1 hst (lv_room hw) hdg hf) G.2.2 (fun q _ h => hF q h) hF (fun r1 u t H1 locs1 ht hvm hp hB hz1 hk1 hS1 => ?_)
  obtain ⟨hP1, hD1⟩ := hB
  rw [ht] at hP1
  obtain ⟨hP2, hD2⟩ := va_join (wr := wr) (w1 := w2 u) G.1 G.2.1 isC isR hC hR hnR hdis hk1 hF hP1 hD1
  exact kk r1 u H1 locs1 hp ⟨hP2, hD2, hS1⟩
/-- invokevirtual, no answer -/
theorem m_vv {S : Type} {y : MethodName} {rm : Room} {wc wr : va_W} {b : Nat} {As : List Value} {post : S → Prop} {w2 : S → va_W} {st0 : List Value} {lvs : List (Nat × Value)} (E : mE p s m meth c cc args nL own D K A) (G : mG D A s H locs ws) (hl : lv_has ls nL lvs) (hM : mV l y bytes maxL rm D K wc (.ref b :: As) post w2) (isC isR : List Nat) (hC : isC.map (fun i => ws[i]?) = wc.map some) (hR : isR.map (fun i => ws[i]?) = wr.map some) (hnC : va_nd isC = true) (hnR : va_nd isR = true) (hdis : ∀ i ∈ isR, i ∉ isC)
    (q0 : Nat) {ci : Nat} {fs : List Value} {r : vw_C} (he : wc[q0]? = some (b, .inr (ci, fs))) (hc : classes[ci]? = some r) (hy : r.1 = y.cls) (n : Nat) (hn : As.length = n) (hcode : Cond.code y bytes maxL none ∈ cw) (hini : Cond.initialized y.cls ∈ cw) (hlk : Cond.methodLink own index y ∈ cw) (hin : Cond.instanceMethod y ∈ cw) (hsel : Cond.selects y.cls y y ∈ cw) (hd : y.cls ≠ "java/lang/invoke/MethodHandle" ∧ y.cls ≠ "java/lang/invoke/VarHandle" ∧ (parseMethodDescriptor y.desc).map (fun d => d.parameters.length) = some n) (hRm : rm.frames + 1 ≤ R.frames ∧ 8 + (maxL + 11) + rm.locals ≤ R.locals)
    (hst : st0 = As.reverse ++ .ref b :: rest) (hw : (rest.map fun v => v.category).sum ≤ 8) (hf : cells + rm.cells ≤ R.cells ∧ slots + rm.slots ≤ R.slots) (hdg : decode cc pc = .ok (.invokevirtual index, 3))
    (kk : ∀ (u : S) (H1 : Heap) (locs1 : List Loc), post u → mG D A s H1 locs1 (wr ++ w2 u) → W p l e R s m args below meth c H1 locs1 (cells + rm.cells) (slots + rm.slots) Q (F0 m (pc + 3) ls rest)) : W p l e R s m args below meth c H locs cells slots Q (F0 m pc ls st0) := by
  have hF := m_free E G isC hC
  have G1 := G.sub (ws' := wc) isC hnC hC
  have hrec := va_recv E.2.2.2.2.2.1 G1.1 hc he
  rw [hy] at hrec
  refine va_callv (va_runV (As := As) (rest := rest) (n := n) (nL := nL) (C := y.cls) (Ts := cw) ⟨E.1, E.2.1, E.2.2.1, E.2.2.2.1, E.2.2.2.2.1⟩ (hM H.size) ⟨m_callB E n hcode hini hlk hd hRm, E.2.2.2.2.1 _ hin, E.2.2.2.2.1 _ hsel⟩ ⟨mPre_blind, hrec, m_pre E G isC hnC hC⟩ rfl hn hl.1 hst (lv_room hw) hdg hf) G.2.2 (fun q _ h => hF q h) hF (fun u t H1 locs1 ht hvm hp hB hz1 hk1 hS1 => ?_)
  obtain ⟨hP1, hD1⟩ := hB
  rw [ht] at hP1
  obtain ⟨hP2, hD2⟩ := va_join (wr := wr) (w1 := w2 u) G.1 G.2.1 isC isR hC hR hnR hdis hk1 hF hP1 hD1
  exact kk u H1 locs1 hp ⟨hP2, hD2, hS1⟩
/-- invokestatic, an int answer -/
theorem m_si {S : Type} {y : MethodName} {ret : FieldType} {rm : Room} {wc wr : va_W} {As : List Value} {post : Int32 → S → Prop} {w2 : S → va_W} {st0 : List Value} {lvs : List (Nat × Value)} (E : mE p s m meth c cc args nL own D K A) (G : mG D A s H locs ws) (hl : lv_has ls nL lvs) (hM : mI l y bytes maxL ret rm D K wc As post w2) (isC isR : List Nat) (hC : isC.map (fun i => ws[i]?) = wc.map some) (hR : isR.map (fun i => ws[i]?) = wr.map some) (hnC : va_nd isC = true) (hnR : va_nd isR = true) (hdis : ∀ i ∈ isR, i ∉ isC)
    (n : Nat) (hn : As.length = n) (hcode : Cond.code y bytes maxL (some ret) ∈ cw) (hini : Cond.initialized y.cls ∈ cw) (hlk : Cond.methodLink own index y ∈ cw) (hin : Cond.static y ∈ cw) (hd : y.cls ≠ "java/lang/invoke/MethodHandle" ∧ y.cls ≠ "java/lang/invoke/VarHandle" ∧ (parseMethodDescriptor y.desc).map (fun d => d.parameters.length) = some n) (hRm : rm.frames + 1 ≤ R.frames ∧ 8 + (maxL + 11) + rm.locals ≤ R.locals)
    (hst : st0 = As.reverse ++ rest) (hw : (rest.map fun v => v.category).sum ≤ 8) (hf : cells + rm.cells ≤ R.cells ∧ slots + rm.slots ≤ R.slots) (hdg : decode cc pc = .ok (.invokestatic index, 3))
    (kk : ∀ (r1 : Int32) (u : S) (H1 : Heap) (locs1 : List Loc), post r1 u → mG D A s H1 locs1 (wr ++ w2 u) → W p l e R s m args below meth c H1 locs1 (cells + rm.cells) (slots + rm.slots) Q (F0 m (pc + 3) ls (.int r1 :: rest))) : W p l e R s m args below meth c H locs cells slots Q (F0 m pc ls st0) := by
  have hF := m_free E G isC hC
  refine va_calli (va_runS (As := As) (rest := rest) (n := n) (nL := nL) (Ts := cw) ⟨E.1, E.2.1, E.2.2.1, E.2.2.2.1, E.2.2.2.2.1⟩ (hM H.size) ⟨m_callB E n hcode hini hlk hd hRm, E.2.2.2.2.1 _ hin⟩ ⟨mPre_blind, m_pre E G isC hnC hC⟩ rfl hn hl.1 hst (lv_room hw) hdg hf) G.2.2 (fun q _ h => hF q h) hF (fun r1 u t H1 locs1 ht hvm hp hB hz1 hk1 hS1 => ?_)
  obtain ⟨hP1, hD1⟩ := hB
  rw [ht] at hP1
  obtain ⟨hP2, hD2⟩ := va_join (wr := wr) (w1 := w2 u) G.1 G.2.1 isC isR hC hR hnR hdis hk1 hF hP1 hD1
  exact kk r1 u H1 locs1 hp ⟨hP2, hD2, hS1⟩
/-- invokespecial of a constructor: of a nest mate (private), and of another class -/
theorem m_in {S : Type} {y : MethodName} {rm : Room} {wc wr : va_W} {b : Nat} {As : List Value} {post : S → Prop} {w2 : S → va_W} {st0 : List Value} {lvs : List (Nat × Value)} {host : String} (E : mE p s m meth c cc args nL own D K A) (G : mG D A s H locs ws) (hl : lv_has ls nL lvs) (hM : mV l y bytes maxL rm D K wc (.ref b :: As) post w2) (isC isR : List Nat) (hC : isC.map (fun i => ws[i]?) = wc.map some) (hR : isR.map (fun i => ws[i]?) = wr.map some) (hnC : va_nd isC = true) (hnR : va_nd isR = true) (hdis : ∀ i ∈ isR, i ∉ isC)
    (n : Nat) (hn : As.length = n) (hnm : y.name = "<init>") (hcode : Cond.code y bytes maxL none ∈ cw) (hini : Cond.initialized y.cls ∈ cw) (hlk : Cond.methodLinkNest own index y host ∈ cw) (hin : Cond.instanceMethod y ∈ cw) (hd : y.cls ≠ "java/lang/invoke/MethodHandle" ∧ y.cls ≠ "java/lang/invoke/VarHandle" ∧ (parseMethodDescriptor y.desc).map (fun d => d.parameters.length) = some n) (hRm : rm.frames + 1 ≤ R.frames ∧ 8 + (maxL + 11) + rm.locals ≤ R.locals)
    (hst : st0 = As.reverse ++ .ref b :: rest) (hw : (rest.map fun v => v.category).sum ≤ 8) (hf : cells + rm.cells ≤ R.cells ∧ slots + rm.slots ≤ R.slots) (hdg : decode cc pc = .ok (.invokespecial index, 3))
    (kk : ∀ (u : S) (H1 : Heap) (locs1 : List Loc), post u → mG D A s H1 locs1 (wr ++ w2 u) → W p l e R s m args below meth c H1 locs1 (cells + rm.cells) (slots + rm.slots) Q (F0 m (pc + 3) ls rest)) : W p l e R s m args below meth c H locs cells slots Q (F0 m pc ls st0) := by
  have hF := m_free E G isC hC
  refine va_callv (va_runIN (As := As) (rest := rest) (n := n) (nL := nL) (Ts := cw) ⟨E.1, E.2.1, E.2.2.1, E.2.2.2.1, E.2.2.2.2.1⟩ (hM H.size) ⟨m_callN (host := host) E n hcode hini hlk hd hRm, hnm, E.2.2.2.2.1 _ hin⟩ ⟨mPre_blind, m_pre E G isC hnC hC⟩ rfl hn hl.1 hst (lv_room hw) hdg hf) G.2.2 (fun q _ h => hF q h) hF (fun u t H1 locs1 ht hvm hp hB hz1 hk1 hS1 => ?_)
  obtain ⟨hP1, hD1⟩ := hB
  rw [ht] at hP1
  obtain ⟨hP2, hD2⟩ := va_join (wr := wr) (w1 := w2 u) G.1 G.2.1 isC isR hC hR hnR hdis hk1 hF hP1 hD1
  exact kk u H1 locs1 hp ⟨hP2, hD2, hS1⟩
theorem m_ii {S : Type} {y : MethodName} {rm : Room} {wc wr : va_W} {b : Nat} {As : List Value} {post : S → Prop} {w2 : S → va_W} {st0 : List Value} {lvs : List (Nat × Value)} (E : mE p s m meth c cc args nL own D K A) (G : mG D A s H locs ws) (hl : lv_has ls nL lvs) (hM : mV l y bytes maxL rm D K wc (.ref b :: As) post w2) (isC isR : List Nat) (hC : isC.map (fun i => ws[i]?) = wc.map some) (hR : isR.map (fun i => ws[i]?) = wr.map some) (hnC : va_nd isC = true) (hnR : va_nd isR = true) (hdis : ∀ i ∈ isR, i ∉ isC)
    (n : Nat) (hn : As.length = n) (hnm : y.name = "<init>") (hcode : Cond.code y bytes maxL none ∈ cw) (hini : Cond.initialized y.cls ∈ cw) (hlk : Cond.methodLink own index y ∈ cw) (hin : Cond.instanceMethod y ∈ cw) (hd : y.cls ≠ "java/lang/invoke/MethodHandle" ∧ y.cls ≠ "java/lang/invoke/VarHandle" ∧ (parseMethodDescriptor y.desc).map (fun d => d.parameters.length) = some n) (hRm : rm.frames + 1 ≤ R.frames ∧ 8 + (maxL + 11) + rm.locals ≤ R.locals)
    (hst : st0 = As.reverse ++ .ref b :: rest) (hw : (rest.map fun v => v.category).sum ≤ 8) (hf : cells + rm.cells ≤ R.cells ∧ slots + rm.slots ≤ R.slots) (hdg : decode cc pc = .ok (.invokespecial index, 3))
    (kk : ∀ (u : S) (H1 : Heap) (locs1 : List Loc), post u → mG D A s H1 locs1 (wr ++ w2 u) → W p l e R s m args below meth c H1 locs1 (cells + rm.cells) (slots + rm.slots) Q (F0 m (pc + 3) ls rest)) : W p l e R s m args below meth c H locs cells slots Q (F0 m pc ls st0) := by
  have hF := m_free E G isC hC
  refine va_callv (va_runI (As := As) (rest := rest) (n := n) (nL := nL) (Ts := cw) ⟨E.1, E.2.1, E.2.2.1, E.2.2.2.1, E.2.2.2.2.1⟩ (hM H.size) ⟨m_callB E n hcode hini hlk hd hRm, hnm, E.2.2.2.2.1 _ hin⟩ ⟨mPre_blind, m_pre E G isC hnC hC⟩ rfl hn hl.1 hst (lv_room hw) hdg hf) G.2.2 (fun q _ h => hF q h) hF (fun u t H1 locs1 ht hvm hp hB hz1 hk1 hS1 => ?_)
  obtain ⟨hP1, hD1⟩ := hB
  rw [ht] at hP1
  obtain ⟨hP2, hD2⟩ := va_join (wr := wr) (w1 := w2 u) G.1 G.2.1 isC isR hC hR hnR hdis hk1 hF hP1 hD1
  exact kk u H1 locs1 hp ⟨hP2, hD2, hS1⟩
/-- the ends -/
theorem m_reti {S : Type} {post : Int32 → S → Prop} {w2 : S → va_W} {mc ms : Nat} {v : Int32} {ty : FieldType} (E : mE p s m meth c cc args nL own D K A) (G : mG D A s H locs ws) (hr : meth.sig.returnType = some ty) (hn : narrow ty (.int v) = .int v) (u : S) (hp : post v u) (is : List Nat) (hnd : va_nd is = true) (hs : is.map (fun i => ws[i]?) = (w2 u).map some) (h1 : cells ≤ mc) (h2 : slots ≤ ms) (hdg : decode cc pc = .ok (.ireturn, 1)) :
    W p l e R s m args below meth c H locs cells slots (MQ below (va_Qi post (mB D A w2) A) args s mc ms A) (F0 m pc ls [.int v]) := by
  have G9 := G.sub (ws' := w2 u) is hnd hs
  refine W.widen (k := mc) (n := ms) h1 h2 ?_
  exact W.zret E.1 E.2.1 hr hn (fun t ht hW => ⟨⟨v, u, rfl, hp, by rw [ht]; exact G9.1, G9.2.1⟩, G9.2.2.F ht⟩) G9.2.2.2.2 hdg E.2.2.2.2.2.2.2
theorem m_retv {S : Type} {post : S → Prop} {w2 : S → va_W} {mc ms : Nat} (E : mE p s m meth c cc args nL own D K A) (G : mG D A s H locs ws) (hr : meth.sig.returnType = none) (u : S) (hp : post u) (is : List Nat) (hnd : va_nd is = true) (hs : is.map (fun i => ws[i]?) = (w2 u).map some) (h1 : cells ≤ mc) (h2 : slots ≤ ms) (hdg : decode cc pc = .ok (.return_, 1)) :
    W p l e R s m args below meth c H locs cells slots (MQ below (va_Qv post (mB D A w2) A) args s mc ms A) (F0 m pc ls []) := by
  have G9 := G.sub (ws' := w2 u) is hnd hs
  refine W.widen (k := mc) (n := ms) h1 h2 ?_
  exact W.vret E.1 E.2.1 hr (fun t ht hW => ⟨⟨u, rfl, hp, by rw [ht]; exact G9.1, G9.2.1⟩, G9.2.2.F ht⟩) G9.2.2.2.2 hdg E.2.2.2.2.2.2.2
theorem m_copyi (E : mE p s m meth c cc args nL own D K A) (G : mG D A s H locs ws) {lvs : List (Nat × Value)} (hl : lv_has ls nL lvs) (hlk : Cond.methodLink own index arraycopyName ∈ cw) (q0 q1 : Nat) {a0 n0 n1 : Nat} {f g : Nat → Int32} (ha0 : ws[q0]? = some (a0, .inl (K 0, n0, .inl f))) (ha1 : ws[q1]? = some (a, .inl (K 0, n1, .inl g))) {sp dp n : Int32} (h1 : ¬ sp < 0) (h2 : ¬ dp < 0) (h3 : ¬ n < 0) (h4 : sp.toNatClampNeg + n.toNatClampNeg ≤ n0) (h5 : dp.toNatClampNeg + n.toNatClampNeg ≤ n1) (hframes : 1 ≤ R.frames) (hw : (rest.map fun v => v.category).sum ≤ 8) (hlocals : 26 ≤ R.locals) (hdg : decode cc pc = .ok (.invokestatic index, 3))
    (kk : ∀ (H1 : Heap) (locs1 : List Loc), mG D A s H1 locs1 (ws.set q1 (a, .inl (K 0, n1, .inl (va_cpy f g sp.toNatClampNeg dp.toNatClampNeg n.toNatClampNeg)))) → W p l e R s m args below meth c H1 locs1 cells slots Q (F0 m (pc + 3) ls rest)) : W p l e R s m args below meth c H locs cells slots Q (F0 m pc ls (.int n :: .int dp :: .ref a :: .int sp :: .ref a0 :: rest)) :=
  va_copyi E.1 E.2.1 (E.2.2.1.trans hl.1.symm) E.2.2.2.1 (E.2.2.2.2.1 _ hlk) (E.2.2.2.2.1 _ mw_cpNat) (E.2.2.2.2.1 _ mw_cpSt) (E.2.2.2.2.1 _ mw_cpIni) E.2.2.2.2.2.1 G.1 G.2.1 G.2.2 q0 q1 0 0 ha0 ha1 rfl rfl rfl h1 h2 h3 h4 h5 (fun _ _ => rfl) hframes (Nat.le_trans (Nat.add_le_add_right hw _) hlocals) hdg (fun H1 l1 a1 a2 a3 => kk H1 l1 ⟨a1, a2, a3⟩)
end MY
theorem z_shr (k : Int32) : (0 : Int32) >>> k = 0 := by simp
/-- the answers of a new object, where they depend on the arguments -/
def ans_end (n : Int32) : Int32 := if n = 0 then 0 else -1
theorem ans_end_1 {n : Int32} (h : n < 0) : -1 = ans_end n := by
  unfold ans_end
  rw [if_neg (fun e => by subst e; exact absurd h (by decide))]
theorem ans_end_2 {n : Int32} (h : 0 < n) : -1 = ans_end n := by
  unfold ans_end
  rw [if_neg (fun e => by subst e; exact absurd h (by decide))]
theorem ans_end_3 {n : Int32} (h1 : ¬ n < 0) (h2 : ¬ 0 < n) : n = ans_end n := by
  have e := Int32.le_antisymm (Int32.not_lt.mp h2) (Int32.not_lt.mp h1)
  subst e
  rfl
def ans_force (n : Int32) : Int32 := if n = -1 then -1 else -2
theorem ans_force_1 {n : Int32} (h : n < -1) : -2 = ans_force n := by
  unfold ans_force
  rw [if_neg (fun e => by subst e; exact absurd h (by decide))]
theorem ans_force_2 {n : Int32} (h : 0 ≤ n) : -2 = ans_force n := by
  unfold ans_force
  rw [if_neg (fun e => by subst e; exact absurd h (by decide))]
theorem ans_force_3 {n : Int32} (h1 : ¬ n < -1) (h2 : ¬ 0 ≤ n) : -1 = ans_force n := by
  have e : n = -1 := by
    rw [Int32.lt_iff_toInt_lt] at h1
    rw [Int32.le_iff_toInt_le] at h2
    apply Int32.toInt_inj.mp
    have e1 : (-1 : Int32).toInt = -1 := by decide
    have e2 : (0 : Int32).toInt = 0 := by decide
    omega
  subst e
  rfl
theorem ans_force_4 {n : Int32} (h : n = -1) : -1 = ans_force n := by subst h; rfl
theorem ans_force_5 {n : Int32} (h : ¬ n = -1) : -2 = ans_force n := by unfold ans_force; rw [if_neg h]
def ans_note (n : Int32) : Int32 := if n = -1 then 0 else -2
theorem ans_note_1 {n : Int32} (h : n = -1) : 0 = ans_note n := by subst h; rfl
theorem ans_note_2 {n : Int32} (h : ¬ n = -1) : -2 = ans_note n := by unfold ans_note; rw [if_neg h]
def ans_seed (n : Int32) : Int32 := if n < 0 then -1 else 0
theorem ans_seed_1 {n : Int32} (h : n < 0) : -1 = ans_seed n := by unfold ans_seed; rw [if_pos h]
theorem ans_seed_2 {n : Int32} (h : ¬ n < 0) : 0 = ans_seed n := by unfold ans_seed; rw [if_neg h]
def ans_count (n : Int32) : Int32 := if n.toInt < 0 ∨ 13 < n.toInt then -1 else if n = 5 then -1 else 0
theorem ans_count_1 {n : Int32} (h : n.toInt < 0 ∨ 13 < n.toInt) : -1 = ans_count n := by unfold ans_count; rw [if_pos h]
theorem lgc_lt {x y : Int64} : lg_cmp x y < 0 ↔ x < y := by
  unfold lg_cmp
  by_cases h1 : x > y
  · rw [if_pos h1]
    exact ⟨fun h => absurd h (by decide), fun h => absurd (Int64.lt_trans h h1) (Int64.lt_irrefl)⟩
  · rw [if_neg h1]
    by_cases h2 : x = y
    · rw [if_pos h2]
      exact ⟨fun h => absurd h (by decide), fun h => absurd (h2 ▸ h) (Int64.lt_irrefl)⟩
    · rw [if_neg h2]
      exact ⟨fun _ => Int64.lt_of_le_of_ne (Int64.not_lt.mp h1) h2, fun _ => by decide⟩
theorem lgc_gt {x y : Int64} : 0 < lg_cmp x y ↔ y < x := by
  unfold lg_cmp
  by_cases h1 : x > y
  · rw [if_pos h1]
    exact ⟨fun _ => h1, fun _ => by decide⟩
  · rw [if_neg h1]
    by_cases h2 : x = y
    · rw [if_pos h2]
      exact ⟨fun h => absurd h (by decide), fun h => absurd h h1⟩
    · rw [if_neg h2]
      exact ⟨fun h => absurd h (by decide), fun h => absurd h h1⟩
def ans_in (v a b : Int64) : Int32 := if v < a then 0 else if b < v then 0 else 1
theorem ans_in_1 {v a b : Int64} (h : lg_cmp v a < 0) : 0 = ans_in v a b := by unfold ans_in; rw [if_pos (lgc_lt.mp h)]
theorem ans_in_2 {v a b : Int64} (h1 : ¬ lg_cmp v a < 0) (h2 : 0 < lg_cmp v b) : 0 = ans_in v a b := by unfold ans_in; rw [if_neg (fun h => h1 (lgc_lt.mpr h)), if_pos (lgc_gt.mp h2)]
theorem ans_in_3 {v a b : Int64} (h1 : ¬ lg_cmp v a < 0) (h2 : ¬ 0 < lg_cmp v b) : 1 = ans_in v a b := by unfold ans_in; rw [if_neg (fun h => h1 (lgc_lt.mpr h)), if_neg (fun h => h2 (lgc_gt.mpr h))]
end
section
theorem mw_fl_3_15 : (Cond.fieldLink RX3 15 "LureTown$Notes" "behind" "[I" : Cond) ∈ cw := cw_of (List.mem_append_right _ (List.mem_append_right _ (List.mem_append_left _ (List.mem_of_getElem? (i := 39) (by decide +kernel))))) (by decide +kernel)
theorem mw_fl_3_19 : (Cond.fieldLink RX3 19 "LureTown$Notes" "walkers" "[I" : Cond) ∈ cw := cw_of (List.mem_append_right _ (List.mem_append_right _ (List.mem_append_left _ (List.mem_of_getElem? (i := 40) (by decide +kernel))))) (by decide +kernel)
theorem mw_fl_3_22 : (Cond.fieldLink RX3 22 "LureTown$Notes" "corners" "[I" : Cond) ∈ cw := cw_of (List.mem_append_right _ (List.mem_append_right _ (List.mem_append_left _ (List.mem_of_getElem? (i := 41) (by decide +kernel))))) (by decide +kernel)
theorem mw_fl_3_9 : (Cond.fieldLink RX3 9 "LureTown$Notes" "size" "I" : Cond) ∈ cw := cw_of (List.mem_append_right _ (List.mem_append_right _ (List.mem_append_left _ (List.mem_of_getElem? (i := 37) (by decide +kernel))))) (by decide +kernel)
theorem mw_fl_4_15 : (Cond.fieldLink RX4 15 "LureTown$Rule" "code" "[I" : Cond) ∈ cw := cw_of (List.mem_append_right _ (List.mem_append_left _ (List.mem_of_getElem? (i := 209) (by decide +kernel)))) (by decide +kernel)
theorem mw_fl_4_19 : (Cond.fieldLink RX4 19 "LureTown$Rule" "codeSize" "I" : Cond) ∈ cw := cw_of (List.mem_append_right _ (List.mem_append_left _ (List.mem_of_getElem? (i := 210) (by decide +kernel)))) (by decide +kernel)
theorem mw_fl_4_22 : (Cond.fieldLink RX4 22 "LureTown$Rule" "sumFrom" "[I" : Cond) ∈ cw := cw_of (List.mem_append_right _ (List.mem_append_left _ (List.mem_of_getElem? (i := 211) (by decide +kernel)))) (by decide +kernel)
theorem mw_fl_4_25 : (Cond.fieldLink RX4 25 "LureTown$Rule" "testFrom" "[I" : Cond) ∈ cw := cw_of (List.mem_append_right _ (List.mem_append_left _ (List.mem_of_getElem? (i := 212) (by decide +kernel)))) (by decide +kernel)
theorem mw_fl_4_28 : (Cond.fieldLink RX4 28 "LureTown$Rule" "stack" "[J" : Cond) ∈ cw := cw_of (List.mem_append_right _ (List.mem_append_left _ (List.mem_of_getElem? (i := 213) (by decide +kernel)))) (by decide +kernel)
theorem mw_fl_4_9 : (Cond.fieldLink RX4 9 "LureTown$Rule" "clauseCount" "I" : Cond) ∈ cw := cw_of (List.mem_append_right _ (List.mem_append_left _ (List.mem_of_getElem? (i := 206) (by decide +kernel)))) (by decide +kernel)
theorem mw_fl_6_15 : (Cond.fieldLink RX6 15 "LureTown$State" "walkerHeart" "[I" : Cond) ∈ cw := cw_of (List.mem_append_right _ (List.mem_append_left _ (List.mem_of_getElem? (i := 91) (by decide +kernel)))) (by decide +kernel)
theorem mw_fl_6_18 : (Cond.fieldLink RX6 18 "LureTown$State" "walkerWary" "[I" : Cond) ∈ cw := cw_of (List.mem_append_right _ (List.mem_append_left _ (List.mem_of_getElem? (i := 95) (by decide +kernel)))) (by decide +kernel)
theorem mw_fl_6_21 : (Cond.fieldLink RX6 21 "LureTown$State" "walkerCharge" "[I" : Cond) ∈ cw := cw_of (List.mem_append_right _ (List.mem_append_left _ (List.mem_of_getElem? (i := 99) (by decide +kernel)))) (by decide +kernel)
theorem mw_fl_6_24 : (Cond.fieldLink RX6 24 "LureTown$State" "lureCorner" "[I" : Cond) ∈ cw := cw_of (List.mem_append_right _ (List.mem_append_left _ (List.mem_of_getElem? (i := 102) (by decide +kernel)))) (by decide +kernel)
theorem mw_fl_6_27 : (Cond.fieldLink RX6 27 "LureTown$State" "lureKind" "[I" : Cond) ∈ cw := cw_of (List.mem_append_right _ (List.mem_append_left _ (List.mem_of_getElem? (i := 106) (by decide +kernel)))) (by decide +kernel)
theorem mw_fl_6_30 : (Cond.fieldLink RX6 30 "LureTown$State" "setBits" "I" : Cond) ∈ cw := cw_of (List.mem_append_right _ (List.mem_append_left _ (List.mem_of_getElem? (i := 109) (by decide +kernel)))) (by decide +kernel)
theorem mw_fl_6_34 : (Cond.fieldLink RX6 34 "LureTown$State" "steps" "I" : Cond) ∈ cw := cw_of (List.mem_append_right _ (List.mem_append_left _ (List.mem_of_getElem? (i := 113) (by decide +kernel)))) (by decide +kernel)
theorem mw_fl_6_9 : (Cond.fieldLink RX6 9 "LureTown$State" "walkerCorner" "[I" : Cond) ∈ cw := cw_of (List.mem_append_right _ (List.mem_append_left _ (List.mem_of_getElem? (i := 86) (by decide +kernel)))) (by decide +kernel)
theorem mw_fl_7_15 : (Cond.fieldLink RX7 15 "LureTown$Tape" "size" "I" : Cond) ∈ cw := cw_of (List.mem_append_right _ (List.mem_append_left _ (List.mem_of_getElem? (i := 36) (by decide +kernel)))) (by decide +kernel)
theorem mw_fl_7_19 : (Cond.fieldLink RX7 19 "LureTown$Tape" "fault" "I" : Cond) ∈ cw := cw_of (List.mem_append_right _ (List.mem_append_left _ (List.mem_of_getElem? (i := 38) (by decide +kernel)))) (by decide +kernel)
theorem mw_fl_7_22 : (Cond.fieldLink RX7 22 "LureTown$Tape" "token" "I" : Cond) ∈ cw := cw_of (List.mem_append_right _ (List.mem_append_left _ (List.mem_of_getElem? (i := 42) (by decide +kernel)))) (by decide +kernel)
theorem mw_fl_7_25 : (Cond.fieldLink RX7 25 "LureTown$Tape" "number" "I" : Cond) ∈ cw := cw_of (List.mem_append_right _ (List.mem_append_left _ (List.mem_of_getElem? (i := 45) (by decide +kernel)))) (by decide +kernel)
theorem mw_fl_7_28 : (Cond.fieldLink RX7 28 "LureTown$Tape" "start" "I" : Cond) ∈ cw := cw_of (List.mem_append_right _ (List.mem_append_left _ (List.mem_of_getElem? (i := 48) (by decide +kernel)))) (by decide +kernel)
theorem mw_fl_7_31 : (Cond.fieldLink RX7 31 "LureTown$Tape" "reached" "I" : Cond) ∈ cw := cw_of (List.mem_append_right _ (List.mem_append_left _ (List.mem_of_getElem? (i := 49) (by decide +kernel)))) (by decide +kernel)
theorem mw_fl_7_9 : (Cond.fieldLink RX7 9 "LureTown$Tape" "bytes" "[B" : Cond) ∈ cw := cw_of (List.mem_append_right _ (List.mem_append_left _ (List.mem_of_getElem? (i := 35) (by decide +kernel)))) (by decide +kernel)
theorem mw_ml_3_3 : (Cond.methodLink RX3 3 Lib.objectInit : Cond) ∈ cw := cw_of (List.mem_append_right _ (List.mem_append_right _ (List.mem_append_left _ (List.mem_of_getElem? (i := 36) (by decide +kernel))))) (by decide +kernel)
theorem mw_ml_4_3 : (Cond.methodLink RX4 3 Lib.objectInit : Cond) ∈ cw := cw_of (List.mem_append_right _ (List.mem_append_left _ (List.mem_of_getElem? (i := 205) (by decide +kernel)))) (by decide +kernel)
theorem mw_ml_6_3 : (Cond.methodLink RX6 3 Lib.objectInit : Cond) ∈ cw := cw_of (List.mem_append_right _ (List.mem_append_left _ (List.mem_of_getElem? (i := 85) (by decide +kernel)))) (by decide +kernel)
theorem mw_ml_7_3 : (Cond.methodLink RX7 3 Lib.objectInit : Cond) ∈ cw := cw_of (List.mem_append_right _ (List.mem_append_left _ (List.mem_of_getElem? (i := 34) (by decide +kernel)))) (by decide +kernel)
theorem dX3_init_0 : decode cX3_init 0 = .ok (.aload_n 0, 1) := by decide +kernel
theorem dX3_init_1 : decode cX3_init 1 = .ok (.invokespecial 3, 3) := by decide +kernel
theorem dX3_init_4 : decode cX3_init 4 = .ok (.aload_n 0, 1) := by decide +kernel
theorem dX3_init_5 : decode cX3_init 5 = .ok (.iconst 0, 1) := by decide +kernel
theorem dX3_init_6 : decode cX3_init 6 = .ok (.putfield 9, 3) := by decide +kernel
theorem dX3_init_9 : decode cX3_init 9 = .ok (.aload_n 0, 1) := by decide +kernel
theorem dX3_init_10 : decode cX3_init 10 = .ok (.bipush 10, 2) := by decide +kernel
theorem dX3_init_12 : decode cX3_init 12 = .ok (.newarray .int, 2) := by decide +kernel
theorem dX3_init_14 : decode cX3_init 14 = .ok (.putfield 15, 3) := by decide +kernel
theorem dX3_init_17 : decode cX3_init 17 = .ok (.aload_n 0, 1) := by decide +kernel
theorem dX3_init_18 : decode cX3_init 18 = .ok (.bipush 10, 2) := by decide +kernel
theorem dX3_init_20 : decode cX3_init 20 = .ok (.newarray .int, 2) := by decide +kernel
theorem dX3_init_22 : decode cX3_init 22 = .ok (.putfield 19, 3) := by decide +kernel
theorem dX3_init_25 : decode cX3_init 25 = .ok (.aload_n 0, 1) := by decide +kernel
theorem dX3_init_26 : decode cX3_init 26 = .ok (.bipush 10, 2) := by decide +kernel
theorem dX3_init_28 : decode cX3_init 28 = .ok (.newarray .int, 2) := by decide +kernel
theorem dX3_init_30 : decode cX3_init 30 = .ok (.putfield 22, 3) := by decide +kernel
theorem dX3_init_33 : decode cX3_init 33 = .ok (.return_, 1) := by decide +kernel
theorem dX4_init_0 : decode cX4_init 0 = .ok (.aload_n 0, 1) := by decide +kernel
theorem dX4_init_1 : decode cX4_init 1 = .ok (.invokespecial 3, 3) := by decide +kernel
theorem dX4_init_4 : decode cX4_init 4 = .ok (.aload_n 0, 1) := by decide +kernel
theorem dX4_init_5 : decode cX4_init 5 = .ok (.iconst 0, 1) := by decide +kernel
theorem dX4_init_6 : decode cX4_init 6 = .ok (.putfield 9, 3) := by decide +kernel
theorem dX4_init_9 : decode cX4_init 9 = .ok (.aload_n 0, 1) := by decide +kernel
theorem dX4_init_10 : decode cX4_init 10 = .ok (.sipush 400, 3) := by decide +kernel
theorem dX4_init_13 : decode cX4_init 13 = .ok (.newarray .int, 2) := by decide +kernel
theorem dX4_init_15 : decode cX4_init 15 = .ok (.putfield 15, 3) := by decide +kernel
theorem dX4_init_18 : decode cX4_init 18 = .ok (.aload_n 0, 1) := by decide +kernel
theorem dX4_init_19 : decode cX4_init 19 = .ok (.iconst 0, 1) := by decide +kernel
theorem dX4_init_20 : decode cX4_init 20 = .ok (.putfield 19, 3) := by decide +kernel
theorem dX4_init_23 : decode cX4_init 23 = .ok (.aload_n 0, 1) := by decide +kernel
theorem dX4_init_24 : decode cX4_init 24 = .ok (.bipush 13, 2) := by decide +kernel
theorem dX4_init_26 : decode cX4_init 26 = .ok (.newarray .int, 2) := by decide +kernel
theorem dX4_init_28 : decode cX4_init 28 = .ok (.putfield 22, 3) := by decide +kernel
theorem dX4_init_31 : decode cX4_init 31 = .ok (.aload_n 0, 1) := by decide +kernel
theorem dX4_init_32 : decode cX4_init 32 = .ok (.bipush 13, 2) := by decide +kernel
theorem dX4_init_34 : decode cX4_init 34 = .ok (.newarray .int, 2) := by decide +kernel
theorem dX4_init_36 : decode cX4_init 36 = .ok (.putfield 25, 3) := by decide +kernel
theorem dX4_init_39 : decode cX4_init 39 = .ok (.aload_n 0, 1) := by decide +kernel
theorem dX4_init_40 : decode cX4_init 40 = .ok (.bipush 61, 2) := by decide +kernel
theorem dX4_init_42 : decode cX4_init 42 = .ok (.newarray .long, 2) := by decide +kernel
theorem dX4_init_44 : decode cX4_init 44 = .ok (.putfield 28, 3) := by decide +kernel
theorem dX4_init_47 : decode cX4_init 47 = .ok (.return_, 1) := by decide +kernel
theorem dX6_init_0 : decode cX6_init 0 = .ok (.aload_n 0, 1) := by decide +kernel
theorem dX6_init_1 : decode cX6_init 1 = .ok (.invokespecial 3, 3) := by decide +kernel
theorem dX6_init_4 : decode cX6_init 4 = .ok (.aload_n 0, 1) := by decide +kernel
theorem dX6_init_5 : decode cX6_init 5 = .ok (.iconst 5, 1) := by decide +kernel
theorem dX6_init_6 : decode cX6_init 6 = .ok (.newarray .int, 2) := by decide +kernel
theorem dX6_init_8 : decode cX6_init 8 = .ok (.putfield 9, 3) := by decide +kernel
theorem dX6_init_11 : decode cX6_init 11 = .ok (.aload_n 0, 1) := by decide +kernel
theorem dX6_init_12 : decode cX6_init 12 = .ok (.iconst 5, 1) := by decide +kernel
theorem dX6_init_13 : decode cX6_init 13 = .ok (.newarray .int, 2) := by decide +kernel
theorem dX6_init_15 : decode cX6_init 15 = .ok (.putfield 15, 3) := by decide +kernel
theorem dX6_init_18 : decode cX6_init 18 = .ok (.aload_n 0, 1) := by decide +kernel
theorem dX6_init_19 : decode cX6_init 19 = .ok (.iconst 5, 1) := by decide +kernel
theorem dX6_init_20 : decode cX6_init 20 = .ok (.newarray .int, 2) := by decide +kernel
theorem dX6_init_22 : decode cX6_init 22 = .ok (.putfield 18, 3) := by decide +kernel
theorem dX6_init_25 : decode cX6_init 25 = .ok (.aload_n 0, 1) := by decide +kernel
theorem dX6_init_26 : decode cX6_init 26 = .ok (.iconst 5, 1) := by decide +kernel
theorem dX6_init_27 : decode cX6_init 27 = .ok (.newarray .int, 2) := by decide +kernel
theorem dX6_init_29 : decode cX6_init 29 = .ok (.putfield 21, 3) := by decide +kernel
theorem dX6_init_32 : decode cX6_init 32 = .ok (.aload_n 0, 1) := by decide +kernel
theorem dX6_init_33 : decode cX6_init 33 = .ok (.bipush 6, 2) := by decide +kernel
theorem dX6_init_35 : decode cX6_init 35 = .ok (.newarray .int, 2) := by decide +kernel
theorem dX6_init_37 : decode cX6_init 37 = .ok (.putfield 24, 3) := by decide +kernel
theorem dX6_init_40 : decode cX6_init 40 = .ok (.aload_n 0, 1) := by decide +kernel
theorem dX6_init_41 : decode cX6_init 41 = .ok (.bipush 6, 2) := by decide +kernel
theorem dX6_init_43 : decode cX6_init 43 = .ok (.newarray .int, 2) := by decide +kernel
theorem dX6_init_45 : decode cX6_init 45 = .ok (.putfield 27, 3) := by decide +kernel
theorem dX6_init_48 : decode cX6_init 48 = .ok (.aload_n 0, 1) := by decide +kernel
theorem dX6_init_49 : decode cX6_init 49 = .ok (.iconst 0, 1) := by decide +kernel
theorem dX6_init_50 : decode cX6_init 50 = .ok (.putfield 30, 3) := by decide +kernel
theorem dX6_init_53 : decode cX6_init 53 = .ok (.aload_n 0, 1) := by decide +kernel
theorem dX6_init_54 : decode cX6_init 54 = .ok (.iconst 0, 1) := by decide +kernel
theorem dX6_init_55 : decode cX6_init 55 = .ok (.putfield 34, 3) := by decide +kernel
theorem dX6_init_58 : decode cX6_init 58 = .ok (.return_, 1) := by decide +kernel
theorem dX7_init_0 : decode cX7_init 0 = .ok (.aload_n 0, 1) := by decide +kernel
theorem dX7_init_1 : decode cX7_init 1 = .ok (.invokespecial 3, 3) := by decide +kernel
theorem dX7_init_4 : decode cX7_init 4 = .ok (.aload_n 0, 1) := by decide +kernel
theorem dX7_init_5 : decode cX7_init 5 = .ok (.sipush 400, 3) := by decide +kernel
theorem dX7_init_8 : decode cX7_init 8 = .ok (.newarray .byte, 2) := by decide +kernel
theorem dX7_init_10 : decode cX7_init 10 = .ok (.putfield 9, 3) := by decide +kernel
theorem dX7_init_13 : decode cX7_init 13 = .ok (.aload_n 0, 1) := by decide +kernel
theorem dX7_init_14 : decode cX7_init 14 = .ok (.iconst 0, 1) := by decide +kernel
theorem dX7_init_15 : decode cX7_init 15 = .ok (.putfield 15, 3) := by decide +kernel
theorem dX7_init_18 : decode cX7_init 18 = .ok (.aload_n 0, 1) := by decide +kernel
theorem dX7_init_19 : decode cX7_init 19 = .ok (.iconst 0, 1) := by decide +kernel
theorem dX7_init_20 : decode cX7_init 20 = .ok (.putfield 19, 3) := by decide +kernel
theorem dX7_init_23 : decode cX7_init 23 = .ok (.aload_n 0, 1) := by decide +kernel
theorem dX7_init_24 : decode cX7_init 24 = .ok (.bipush 40, 2) := by decide +kernel
theorem dX7_init_26 : decode cX7_init 26 = .ok (.putfield 22, 3) := by decide +kernel
theorem dX7_init_29 : decode cX7_init 29 = .ok (.aload_n 0, 1) := by decide +kernel
theorem dX7_init_30 : decode cX7_init 30 = .ok (.iconst 0, 1) := by decide +kernel
theorem dX7_init_31 : decode cX7_init 31 = .ok (.putfield 25, 3) := by decide +kernel
theorem dX7_init_34 : decode cX7_init 34 = .ok (.aload_n 0, 1) := by decide +kernel
theorem dX7_init_35 : decode cX7_init 35 = .ok (.iconst 0, 1) := by decide +kernel
theorem dX7_init_36 : decode cX7_init 36 = .ok (.putfield 28, 3) := by decide +kernel
theorem dX7_init_39 : decode cX7_init 39 = .ok (.aload_n 0, 1) := by decide +kernel
theorem dX7_init_40 : decode cX7_init 40 = .ok (.iconst 0, 1) := by decide +kernel
theorem dX7_init_41 : decode cX7_init 41 = .ok (.putfield 31, 3) := by decide +kernel
theorem dX7_init_44 : decode cX7_init 44 = .ok (.return_, 1) := by decide +kernel
set_option maxHeartbeats 4000000 in
set_option maxRecDepth 100000 in
/-- State() -/
theorem c_State_init (l : Launch) (D : va_G) (K : Nat → ClassId) (h0 : Nat) : mV (S := mU) l yX6_init cX6_init 1 ({ frames := 1, cells := 6, slots := 32, locals := 20 }) D K [(h0, .inr (6, [.null, .null, .null, .null, .null, .null, .int 0, .int 0]))] [.ref h0] (fun u => True) (fun u => [(h0, .inr (6, [.ref (u.1 0), .ref (u.1 1), .ref (u.1 2), .ref (u.1 3), .ref (u.1 4), .ref (u.1 5), .int 0, .int 0])), ((u.1 0), .inl (K 0, 5, .inl (fun _ => 0))), ((u.1 1), .inl (K 0, 5, .inl (fun _ => 0))), ((u.1 2), .inl (K 0, 5, .inl (fun _ => 0))), ((u.1 3), .inl (K 0, 5, .inl (fun _ => 0))), ((u.1 4), .inl (K 0, 6, .inl (fun _ => 0))), ((u.1 5), .inl (K 0, 6, .inl (fun _ => 0)))]) := by
  refine m_enterV (by decide) (Nat.le_of_ble_eq_true rfl) ?_
  intro p e s m args below meth c A ls E hr hN G hl
  have E : mE p s m meth c cX6_init args 1 RX6 D K A := E
  have hl : lv_has ls 1 [(0, .ref h0)] := hl
  obtain ⟨H, hH⟩ : ∃ H, H = s.heap := ⟨_, rfl⟩
  obtain ⟨locs, hlo⟩ : ∃ L : List Loc, L = [] := ⟨_, rfl⟩
  rw [← hH, ← hlo] at G
  rw [← hH, ← hlo]
  have G : mG D A s H locs [(h0, .inr (6, [.null, .null, .null, .null, .null, .null, .int 0, .int 0]))] := G
  clear hH hlo
  refine lv_aload_n E.1 E.2.1 dX6_init_0 rfl (lv_at hl 0 rfl) ?_
  refine m_objInit E hl mw_ml_6_3 dX6_init_1 (by decide) (Nat.le_of_ble_eq_true rfl) (by decide) ?_
  refine lv_aload_n E.1 E.2.1 dX6_init_4 rfl (lv_at hl 0 rfl) ?_
  refine lv_iconst (v := 5) E.1 E.2.1 dX6_init_5 (by decide) ?_
  refine m_newi E G (N' := 5) (by decide) (by decide) (by decide) (by decide) (by decide) dX6_init_6 (fun q_1 H G => ?_)
  have G : mG D A s H locs [(h0, .inr (6, [.null, .null, .null, .null, .null, .null, .int 0, .int 0])), (q_1, .inl (K 0, 5, .inl (fun _ => 0)))] := G
  refine m_putF E G hN 0 (ci := 6) rfl 0 (C := RX6) (T := TX6) (N := 8) rfl (by decide) mw_fl_6_9 rfl rfl rfl rfl (Nat.le_of_ble_eq_true rfl) dX6_init_8 (fun H locs G => ?_)
  have G : mG D A s H locs [(h0, .inr (6, [.ref q_1, .null, .null, .null, .null, .null, .int 0, .int 0])), (q_1, .inl (K 0, 5, .inl (fun _ => 0)))] := G
  refine lv_aload_n E.1 E.2.1 dX6_init_11 rfl (lv_at hl 0 rfl) ?_
  refine lv_iconst (v := 5) E.1 E.2.1 dX6_init_12 (by decide) ?_
  refine m_newi E G (N' := 5) (by decide) (by decide) (by decide) (by decide) (by decide) dX6_init_13 (fun q_2 H G => ?_)
  have G : mG D A s H locs [(h0, .inr (6, [.ref q_1, .null, .null, .null, .null, .null, .int 0, .int 0])), (q_1, .inl (K 0, 5, .inl (fun _ => 0))), (q_2, .inl (K 0, 5, .inl (fun _ => 0)))] := G
  refine m_putF E G hN 0 (ci := 6) rfl 1 (C := RX6) (T := TX6) (N := 8) rfl (by decide) mw_fl_6_15 rfl rfl rfl rfl (Nat.le_of_ble_eq_true rfl) dX6_init_15 (fun H locs G => ?_)
  have G : mG D A s H locs [(h0, .inr (6, [.ref q_1, .ref q_2, .null, .null, .null, .null, .int 0, .int 0])), (q_1, .inl (K 0, 5, .inl (fun _ => 0))), (q_2, .inl (K 0, 5, .inl (fun _ => 0)))] := G
  refine lv_aload_n E.1 E.2.1 dX6_init_18 rfl (lv_at hl 0 rfl) ?_
  refine lv_iconst (v := 5) E.1 E.2.1 dX6_init_19 (by decide) ?_
  refine m_newi E G (N' := 5) (by decide) (by decide) (by decide) (by decide) (by decide) dX6_init_20 (fun q_3 H G => ?_)
  have G : mG D A s H locs [(h0, .inr (6, [.ref q_1, .ref q_2, .null, .null, .null, .null, .int 0, .int 0])), (q_1, .inl (K 0, 5, .inl (fun _ => 0))), (q_2, .inl (K 0, 5, .inl (fun _ => 0))), (q_3, .inl (K 0, 5, .inl (fun _ => 0)))] := G
  refine m_putF E G hN 0 (ci := 6) rfl 2 (C := RX6) (T := TX6) (N := 8) rfl (by decide) mw_fl_6_18 rfl rfl rfl rfl (Nat.le_of_ble_eq_true rfl) dX6_init_22 (fun H locs G => ?_)
  have G : mG D A s H locs [(h0, .inr (6, [.ref q_1, .ref q_2, .ref q_3, .null, .null, .null, .int 0, .int 0])), (q_1, .inl (K 0, 5, .inl (fun _ => 0))), (q_2, .inl (K 0, 5, .inl (fun _ => 0))), (q_3, .inl (K 0, 5, .inl (fun _ => 0)))] := G
  refine lv_aload_n E.1 E.2.1 dX6_init_25 rfl (lv_at hl 0 rfl) ?_
  refine lv_iconst (v := 5) E.1 E.2.1 dX6_init_26 (by decide) ?_
  refine m_newi E G (N' := 5) (by decide) (by decide) (by decide) (by decide) (by decide) dX6_init_27 (fun q_4 H G => ?_)
  have G : mG D A s H locs [(h0, .inr (6, [.ref q_1, .ref q_2, .ref q_3, .null, .null, .null, .int 0, .int 0])), (q_1, .inl (K 0, 5, .inl (fun _ => 0))), (q_2, .inl (K 0, 5, .inl (fun _ => 0))), (q_3, .inl (K 0, 5, .inl (fun _ => 0))), (q_4, .inl (K 0, 5, .inl (fun _ => 0)))] := G
  refine m_putF E G hN 0 (ci := 6) rfl 3 (C := RX6) (T := TX6) (N := 8) rfl (by decide) mw_fl_6_21 rfl rfl rfl rfl (Nat.le_of_ble_eq_true rfl) dX6_init_29 (fun H locs G => ?_)
  have G : mG D A s H locs [(h0, .inr (6, [.ref q_1, .ref q_2, .ref q_3, .ref q_4, .null, .null, .int 0, .int 0])), (q_1, .inl (K 0, 5, .inl (fun _ => 0))), (q_2, .inl (K 0, 5, .inl (fun _ => 0))), (q_3, .inl (K 0, 5, .inl (fun _ => 0))), (q_4, .inl (K 0, 5, .inl (fun _ => 0)))] := G
  refine lv_aload_n E.1 E.2.1 dX6_init_32 rfl (lv_at hl 0 rfl) ?_
  refine lv_bipush (v := 6) E.1 E.2.1 dX6_init_33 (by decide) ?_
  refine m_newi E G (N' := 6) (by decide) (by decide) (by decide) (by decide) (by decide) dX6_init_35 (fun q_5 H G => ?_)
  have G : mG D A s H locs [(h0, .inr (6, [.ref q_1, .ref q_2, .ref q_3, .ref q_4, .null, .null, .int 0, .int 0])), (q_1, .inl (K 0, 5, .inl (fun _ => 0))), (q_2, .inl (K 0, 5, .inl (fun _ => 0))), (q_3, .inl (K 0, 5, .inl (fun _ => 0))), (q_4, .inl (K 0, 5, .inl (fun _ => 0))), (q_5, .inl (K 0, 6, .inl (fun _ => 0)))] := G
  refine m_putF E G hN 0 (ci := 6) rfl 4 (C := RX6) (T := TX6) (N := 8) rfl (by decide) mw_fl_6_24 rfl rfl rfl rfl (Nat.le_of_ble_eq_true rfl) dX6_init_37 (fun H locs G => ?_)
  have G : mG D A s H locs [(h0, .inr (6, [.ref q_1, .ref q_2, .ref q_3, .ref q_4, .ref q_5, .null, .int 0, .int 0])), (q_1, .inl (K 0, 5, .inl (fun _ => 0))), (q_2, .inl (K 0, 5, .inl (fun _ => 0))), (q_3, .inl (K 0, 5, .inl (fun _ => 0))), (q_4, .inl (K 0, 5, .inl (fun _ => 0))), (q_5, .inl (K 0, 6, .inl (fun _ => 0)))] := G
  refine lv_aload_n E.1 E.2.1 dX6_init_40 rfl (lv_at hl 0 rfl) ?_
  refine lv_bipush (v := 6) E.1 E.2.1 dX6_init_41 (by decide) ?_
  refine m_newi E G (N' := 6) (by decide) (by decide) (by decide) (by decide) (by decide) dX6_init_43 (fun q_6 H G => ?_)
  have G : mG D A s H locs [(h0, .inr (6, [.ref q_1, .ref q_2, .ref q_3, .ref q_4, .ref q_5, .null, .int 0, .int 0])), (q_1, .inl (K 0, 5, .inl (fun _ => 0))), (q_2, .inl (K 0, 5, .inl (fun _ => 0))), (q_3, .inl (K 0, 5, .inl (fun _ => 0))), (q_4, .inl (K 0, 5, .inl (fun _ => 0))), (q_5, .inl (K 0, 6, .inl (fun _ => 0))), (q_6, .inl (K 0, 6, .inl (fun _ => 0)))] := G
  refine m_putF E G hN 0 (ci := 6) rfl 5 (C := RX6) (T := TX6) (N := 8) rfl (by decide) mw_fl_6_27 rfl rfl rfl rfl (Nat.le_of_ble_eq_true rfl) dX6_init_45 (fun H locs G => ?_)
  have G : mG D A s H locs [(h0, .inr (6, [.ref q_1, .ref q_2, .ref q_3, .ref q_4, .ref q_5, .ref q_6, .int 0, .int 0])), (q_1, .inl (K 0, 5, .inl (fun _ => 0))), (q_2, .inl (K 0, 5, .inl (fun _ => 0))), (q_3, .inl (K 0, 5, .inl (fun _ => 0))), (q_4, .inl (K 0, 5, .inl (fun _ => 0))), (q_5, .inl (K 0, 6, .inl (fun _ => 0))), (q_6, .inl (K 0, 6, .inl (fun _ => 0)))] := G
  refine lv_aload_n E.1 E.2.1 dX6_init_48 rfl (lv_at hl 0 rfl) ?_
  refine lv_iconst (v := 0) E.1 E.2.1 dX6_init_49 (by decide) ?_
  refine m_put E G 0 (ci := 6) rfl 6 (C := RX6) (T := TX6) (N := 8) rfl (by decide) mw_fl_6_30 rfl rfl rfl (Nat.le_of_ble_eq_true rfl) dX6_init_50 (fun H locs G => ?_)
  have G : mG D A s H locs [(h0, .inr (6, [.ref q_1, .ref q_2, .ref q_3, .ref q_4, .ref q_5, .ref q_6, .int 0, .int 0])), (q_1, .inl (K 0, 5, .inl (fun _ => 0))), (q_2, .inl (K 0, 5, .inl (fun _ => 0))), (q_3, .inl (K 0, 5, .inl (fun _ => 0))), (q_4, .inl (K 0, 5, .inl (fun _ => 0))), (q_5, .inl (K 0, 6, .inl (fun _ => 0))), (q_6, .inl (K 0, 6, .inl (fun _ => 0)))] := G
  refine lv_aload_n E.1 E.2.1 dX6_init_53 rfl (lv_at hl 0 rfl) ?_
  refine lv_iconst (v := 0) E.1 E.2.1 dX6_init_54 (by decide) ?_
  refine m_put E G 0 (ci := 6) rfl 7 (C := RX6) (T := TX6) (N := 8) rfl (by decide) mw_fl_6_34 rfl rfl rfl (Nat.le_of_ble_eq_true rfl) dX6_init_55 (fun H locs G => ?_)
  have G : mG D A s H locs [(h0, .inr (6, [.ref q_1, .ref q_2, .ref q_3, .ref q_4, .ref q_5, .ref q_6, .int 0, .int 0])), (q_1, .inl (K 0, 5, .inl (fun _ => 0))), (q_2, .inl (K 0, 5, .inl (fun _ => 0))), (q_3, .inl (K 0, 5, .inl (fun _ => 0))), (q_4, .inl (K 0, 5, .inl (fun _ => 0))), (q_5, .inl (K 0, 6, .inl (fun _ => 0))), (q_6, .inl (K 0, 6, .inl (fun _ => 0)))] := G
  exact m_retv E G hr (fun k => [q_1, q_2, q_3, q_4, q_5, q_6].getD k 0, fun _ _ => 0, fun _ _ => none) trivial [0, 1, 2, 3, 4, 5, 6] (by decide) rfl (by decide) (by decide) dX6_init_58
set_option maxHeartbeats 4000000 in
set_option maxRecDepth 100000 in
/-- Tape() -/
theorem c_Tape_init (l : Launch) (D : va_G) (K : Nat → ClassId) (h0 : Nat) : mV (S := mU) l yX7_init cX7_init 1 ({ frames := 1, cells := 1, slots := 400, locals := 20 }) D K [(h0, .inr (7, [.null, .int 0, .int 0, .int 0, .int 0, .int 0, .int 0]))] [.ref h0] (fun u => True) (fun u => [(h0, .inr (7, [.ref (u.1 0), .int 0, .int 0, .int 40, .int 0, .int 0, .int 0])), ((u.1 0), .inl (K 1, 400, .inl (fun _ => 0)))]) := by
  refine m_enterV (by decide) (Nat.le_of_ble_eq_true rfl) ?_
  intro p e s m args below meth c A ls E hr hN G hl
  have E : mE p s m meth c cX7_init args 1 RX7 D K A := E
  have hl : lv_has ls 1 [(0, .ref h0)] := hl
  obtain ⟨H, hH⟩ : ∃ H, H = s.heap := ⟨_, rfl⟩
  obtain ⟨locs, hlo⟩ : ∃ L : List Loc, L = [] := ⟨_, rfl⟩
  rw [← hH, ← hlo] at G
  rw [← hH, ← hlo]
  have G : mG D A s H locs [(h0, .inr (7, [.null, .int 0, .int 0, .int 0, .int 0, .int 0, .int 0]))] := G
  clear hH hlo
  refine lv_aload_n E.1 E.2.1 dX7_init_0 rfl (lv_at hl 0 rfl) ?_
  refine m_objInit E hl mw_ml_7_3 dX7_init_1 (by decide) (Nat.le_of_ble_eq_true rfl) (by decide) ?_
  refine lv_aload_n E.1 E.2.1 dX7_init_4 rfl (lv_at hl 0 rfl) ?_
  refine lv_sipush (v := 400) E.1 E.2.1 dX7_init_5 (by decide) ?_
  refine m_newb E G (N' := 400) (by decide) (by decide) (by decide) (by decide) (by decide) dX7_init_8 (fun q_1 H G => ?_)
  have G : mG D A s H locs [(h0, .inr (7, [.null, .int 0, .int 0, .int 0, .int 0, .int 0, .int 0])), (q_1, .inl (K 1, 400, .inl (fun _ => 0)))] := G
  refine m_putF E G hN 0 (ci := 7) rfl 0 (C := RX7) (T := TX7) (N := 7) rfl (by decide) mw_fl_7_9 rfl rfl rfl rfl (Nat.le_of_ble_eq_true rfl) dX7_init_10 (fun H locs G => ?_)
  have G : mG D A s H locs [(h0, .inr (7, [.ref q_1, .int 0, .int 0, .int 0, .int 0, .int 0, .int 0])), (q_1, .inl (K 1, 400, .inl (fun _ => 0)))] := G
  refine lv_aload_n E.1 E.2.1 dX7_init_13 rfl (lv_at hl 0 rfl) ?_
  refine lv_iconst (v := 0) E.1 E.2.1 dX7_init_14 (by decide) ?_
  refine m_put E G 0 (ci := 7) rfl 1 (C := RX7) (T := TX7) (N := 7) rfl (by decide) mw_fl_7_15 rfl rfl rfl (Nat.le_of_ble_eq_true rfl) dX7_init_15 (fun H locs G => ?_)
  have G : mG D A s H locs [(h0, .inr (7, [.ref q_1, .int 0, .int 0, .int 0, .int 0, .int 0, .int 0])), (q_1, .inl (K 1, 400, .inl (fun _ => 0)))] := G
  refine lv_aload_n E.1 E.2.1 dX7_init_18 rfl (lv_at hl 0 rfl) ?_
  refine lv_iconst (v := 0) E.1 E.2.1 dX7_init_19 (by decide) ?_
  refine m_put E G 0 (ci := 7) rfl 2 (C := RX7) (T := TX7) (N := 7) rfl (by decide) mw_fl_7_19 rfl rfl rfl (Nat.le_of_ble_eq_true rfl) dX7_init_20 (fun H locs G => ?_)
  have G : mG D A s H locs [(h0, .inr (7, [.ref q_1, .int 0, .int 0, .int 0, .int 0, .int 0, .int 0])), (q_1, .inl (K 1, 400, .inl (fun _ => 0)))] := G
  refine lv_aload_n E.1 E.2.1 dX7_init_23 rfl (lv_at hl 0 rfl) ?_
  refine lv_bipush (v := 40) E.1 E.2.1 dX7_init_24 (by decide) ?_
  refine m_put E G 0 (ci := 7) rfl 3 (C := RX7) (T := TX7) (N := 7) rfl (by decide) mw_fl_7_22 rfl rfl rfl (Nat.le_of_ble_eq_true rfl) dX7_init_26 (fun H locs G => ?_)
  have G : mG D A s H locs [(h0, .inr (7, [.ref q_1, .int 0, .int 0, .int 40, .int 0, .int 0, .int 0])), (q_1, .inl (K 1, 400, .inl (fun _ => 0)))] := G
  refine lv_aload_n E.1 E.2.1 dX7_init_29 rfl (lv_at hl 0 rfl) ?_
  refine lv_iconst (v := 0) E.1 E.2.1 dX7_init_30 (by decide) ?_
  refine m_put E G 0 (ci := 7) rfl 4 (C := RX7) (T := TX7) (N := 7) rfl (by decide) mw_fl_7_25 rfl rfl rfl (Nat.le_of_ble_eq_true rfl) dX7_init_31 (fun H locs G => ?_)
  have G : mG D A s H locs [(h0, .inr (7, [.ref q_1, .int 0, .int 0, .int 40, .int 0, .int 0, .int 0])), (q_1, .inl (K 1, 400, .inl (fun _ => 0)))] := G
  refine lv_aload_n E.1 E.2.1 dX7_init_34 rfl (lv_at hl 0 rfl) ?_
  refine lv_iconst (v := 0) E.1 E.2.1 dX7_init_35 (by decide) ?_
  refine m_put E G 0 (ci := 7) rfl 5 (C := RX7) (T := TX7) (N := 7) rfl (by decide) mw_fl_7_28 rfl rfl rfl (Nat.le_of_ble_eq_true rfl) dX7_init_36 (fun H locs G => ?_)
  have G : mG D A s H locs [(h0, .inr (7, [.ref q_1, .int 0, .int 0, .int 40, .int 0, .int 0, .int 0])), (q_1, .inl (K 1, 400, .inl (fun _ => 0)))] := G
  refine lv_aload_n E.1 E.2.1 dX7_init_39 rfl (lv_at hl 0 rfl) ?_
  refine lv_iconst (v := 0) E.1 E.2.1 dX7_init_40 (by decide) ?_
  refine m_put E G 0 (ci := 7) rfl 6 (C := RX7) (T := TX7) (N := 7) rfl (by decide) mw_fl_7_31 rfl rfl rfl (Nat.le_of_ble_eq_true rfl) dX7_init_41 (fun H locs G => ?_)
  have G : mG D A s H locs [(h0, .inr (7, [.ref q_1, .int 0, .int 0, .int 40, .int 0, .int 0, .int 0])), (q_1, .inl (K 1, 400, .inl (fun _ => 0)))] := G
  exact m_retv E G hr (fun k => [q_1].getD k 0, fun _ _ => 0, fun _ _ => none) trivial [0, 1] (by decide) rfl (by decide) (by decide) dX7_init_44
set_option maxHeartbeats 4000000 in
set_option maxRecDepth 100000 in
/-- Notes() -/
theorem c_Notes_init (l : Launch) (D : va_G) (K : Nat → ClassId) (h0 : Nat) : mV (S := mU) l yX3_init cX3_init 1 ({ frames := 1, cells := 3, slots := 30, locals := 20 }) D K [(h0, .inr (3, [.int 0, .null, .null, .null]))] [.ref h0] (fun u => True) (fun u => [(h0, .inr (3, [.int 0, .ref (u.1 0), .ref (u.1 1), .ref (u.1 2)])), ((u.1 0), .inl (K 0, 10, .inl (fun _ => 0))), ((u.1 1), .inl (K 0, 10, .inl (fun _ => 0))), ((u.1 2), .inl (K 0, 10, .inl (fun _ => 0)))]) := by
  refine m_enterV (by decide) (Nat.le_of_ble_eq_true rfl) ?_
  intro p e s m args below meth c A ls E hr hN G hl
  have E : mE p s m meth c cX3_init args 1 RX3 D K A := E
  have hl : lv_has ls 1 [(0, .ref h0)] := hl
  obtain ⟨H, hH⟩ : ∃ H, H = s.heap := ⟨_, rfl⟩
  obtain ⟨locs, hlo⟩ : ∃ L : List Loc, L = [] := ⟨_, rfl⟩
  rw [← hH, ← hlo] at G
  rw [← hH, ← hlo]
  have G : mG D A s H locs [(h0, .inr (3, [.int 0, .null, .null, .null]))] := G
  clear hH hlo
  refine lv_aload_n E.1 E.2.1 dX3_init_0 rfl (lv_at hl 0 rfl) ?_
  refine m_objInit E hl mw_ml_3_3 dX3_init_1 (by decide) (Nat.le_of_ble_eq_true rfl) (by decide) ?_
  refine lv_aload_n E.1 E.2.1 dX3_init_4 rfl (lv_at hl 0 rfl) ?_
  refine lv_iconst (v := 0) E.1 E.2.1 dX3_init_5 (by decide) ?_
  refine m_put E G 0 (ci := 3) rfl 0 (C := RX3) (T := TX3) (N := 4) rfl (by decide) mw_fl_3_9 rfl rfl rfl (Nat.le_of_ble_eq_true rfl) dX3_init_6 (fun H locs G => ?_)
  have G : mG D A s H locs [(h0, .inr (3, [.int 0, .null, .null, .null]))] := G
  refine lv_aload_n E.1 E.2.1 dX3_init_9 rfl (lv_at hl 0 rfl) ?_
  refine lv_bipush (v := 10) E.1 E.2.1 dX3_init_10 (by decide) ?_
  refine m_newi E G (N' := 10) (by decide) (by decide) (by decide) (by decide) (by decide) dX3_init_12 (fun q_1 H G => ?_)
  have G : mG D A s H locs [(h0, .inr (3, [.int 0, .null, .null, .null])), (q_1, .inl (K 0, 10, .inl (fun _ => 0)))] := G
  refine m_putF E G hN 0 (ci := 3) rfl 1 (C := RX3) (T := TX3) (N := 4) rfl (by decide) mw_fl_3_15 rfl rfl rfl rfl (Nat.le_of_ble_eq_true rfl) dX3_init_14 (fun H locs G => ?_)
  have G : mG D A s H locs [(h0, .inr (3, [.int 0, .ref q_1, .null, .null])), (q_1, .inl (K 0, 10, .inl (fun _ => 0)))] := G
  refine lv_aload_n E.1 E.2.1 dX3_init_17 rfl (lv_at hl 0 rfl) ?_
  refine lv_bipush (v := 10) E.1 E.2.1 dX3_init_18 (by decide) ?_
  refine m_newi E G (N' := 10) (by decide) (by decide) (by decide) (by decide) (by decide) dX3_init_20 (fun q_2 H G => ?_)
  have G : mG D A s H locs [(h0, .inr (3, [.int 0, .ref q_1, .null, .null])), (q_1, .inl (K 0, 10, .inl (fun _ => 0))), (q_2, .inl (K 0, 10, .inl (fun _ => 0)))] := G
  refine m_putF E G hN 0 (ci := 3) rfl 2 (C := RX3) (T := TX3) (N := 4) rfl (by decide) mw_fl_3_19 rfl rfl rfl rfl (Nat.le_of_ble_eq_true rfl) dX3_init_22 (fun H locs G => ?_)
  have G : mG D A s H locs [(h0, .inr (3, [.int 0, .ref q_1, .ref q_2, .null])), (q_1, .inl (K 0, 10, .inl (fun _ => 0))), (q_2, .inl (K 0, 10, .inl (fun _ => 0)))] := G
  refine lv_aload_n E.1 E.2.1 dX3_init_25 rfl (lv_at hl 0 rfl) ?_
  refine lv_bipush (v := 10) E.1 E.2.1 dX3_init_26 (by decide) ?_
  refine m_newi E G (N' := 10) (by decide) (by decide) (by decide) (by decide) (by decide) dX3_init_28 (fun q_3 H G => ?_)
  have G : mG D A s H locs [(h0, .inr (3, [.int 0, .ref q_1, .ref q_2, .null])), (q_1, .inl (K 0, 10, .inl (fun _ => 0))), (q_2, .inl (K 0, 10, .inl (fun _ => 0))), (q_3, .inl (K 0, 10, .inl (fun _ => 0)))] := G
  refine m_putF E G hN 0 (ci := 3) rfl 3 (C := RX3) (T := TX3) (N := 4) rfl (by decide) mw_fl_3_22 rfl rfl rfl rfl (Nat.le_of_ble_eq_true rfl) dX3_init_30 (fun H locs G => ?_)
  have G : mG D A s H locs [(h0, .inr (3, [.int 0, .ref q_1, .ref q_2, .ref q_3])), (q_1, .inl (K 0, 10, .inl (fun _ => 0))), (q_2, .inl (K 0, 10, .inl (fun _ => 0))), (q_3, .inl (K 0, 10, .inl (fun _ => 0)))] := G
  exact m_retv E G hr (fun k => [q_1, q_2, q_3].getD k 0, fun _ _ => 0, fun _ _ => none) trivial [0, 1, 2, 3] (by decide) rfl (by decide) (by decide) dX3_init_33
set_option maxHeartbeats 4000000 in
set_option maxRecDepth 100000 in
/-- Rule() -/
theorem c_Rule_init (l : Launch) (D : va_G) (K : Nat → ClassId) (h0 : Nat) : mV (S := mU) l yX4_init cX4_init 1 ({ frames := 1, cells := 4, slots := 487, locals := 20 }) D K [(h0, .inr (4, [.int 0, .null, .int 0, .null, .null, .null]))] [.ref h0] (fun u => True) (fun u => [(h0, .inr (4, [.int 0, .ref (u.1 0), .int 0, .ref (u.1 1), .ref (u.1 2), .ref (u.1 3)])), ((u.1 2), .inl (K 0, 13, .inl (fun _ => 0)))]) := by
  refine m_enterV (by decide) (Nat.le_of_ble_eq_true rfl) ?_
  intro p e s m args below meth c A ls E hr hN G hl
  have E : mE p s m meth c cX4_init args 1 RX4 D K A := E
  have hl : lv_has ls 1 [(0, .ref h0)] := hl
  obtain ⟨H, hH⟩ : ∃ H, H = s.heap := ⟨_, rfl⟩
  obtain ⟨locs, hlo⟩ : ∃ L : List Loc, L = [] := ⟨_, rfl⟩
  rw [← hH, ← hlo] at G
  rw [← hH, ← hlo]
  have G : mG D A s H locs [(h0, .inr (4, [.int 0, .null, .int 0, .null, .null, .null]))] := G
  clear hH hlo
  refine lv_aload_n E.1 E.2.1 dX4_init_0 rfl (lv_at hl 0 rfl) ?_
  refine m_objInit E hl mw_ml_4_3 dX4_init_1 (by decide) (Nat.le_of_ble_eq_true rfl) (by decide) ?_
  refine lv_aload_n E.1 E.2.1 dX4_init_4 rfl (lv_at hl 0 rfl) ?_
  refine lv_iconst (v := 0) E.1 E.2.1 dX4_init_5 (by decide) ?_
  refine m_put E G 0 (ci := 4) rfl 0 (C := RX4) (T := TX4) (N := 6) rfl (by decide) mw_fl_4_9 rfl rfl rfl (Nat.le_of_ble_eq_true rfl) dX4_init_6 (fun H locs G => ?_)
  have G : mG D A s H locs [(h0, .inr (4, [.int 0, .null, .int 0, .null, .null, .null]))] := G
  refine lv_aload_n E.1 E.2.1 dX4_init_9 rfl (lv_at hl 0 rfl) ?_
  refine lv_sipush (v := 400) E.1 E.2.1 dX4_init_10 (by decide) ?_
  refine m_newi E G (N' := 400) (by decide) (by decide) (by decide) (by decide) (by decide) dX4_init_13 (fun q_1 H G => ?_)
  have G : mG D A s H locs [(h0, .inr (4, [.int 0, .null, .int 0, .null, .null, .null])), (q_1, .inl (K 0, 400, .inl (fun _ => 0)))] := G
  refine m_putF E G hN 0 (ci := 4) rfl 1 (C := RX4) (T := TX4) (N := 6) rfl (by decide) mw_fl_4_15 rfl rfl rfl rfl (Nat.le_of_ble_eq_true rfl) dX4_init_15 (fun H locs G => ?_)
  have G : mG D A s H locs [(h0, .inr (4, [.int 0, .ref q_1, .int 0, .null, .null, .null])), (q_1, .inl (K 0, 400, .inl (fun _ => 0)))] := G
  refine lv_aload_n E.1 E.2.1 dX4_init_18 rfl (lv_at hl 0 rfl) ?_
  refine lv_iconst (v := 0) E.1 E.2.1 dX4_init_19 (by decide) ?_
  refine m_put E G 0 (ci := 4) rfl 2 (C := RX4) (T := TX4) (N := 6) rfl (by decide) mw_fl_4_19 rfl rfl rfl (Nat.le_of_ble_eq_true rfl) dX4_init_20 (fun H locs G => ?_)
  have G : mG D A s H locs [(h0, .inr (4, [.int 0, .ref q_1, .int 0, .null, .null, .null])), (q_1, .inl (K 0, 400, .inl (fun _ => 0)))] := G
  refine lv_aload_n E.1 E.2.1 dX4_init_23 rfl (lv_at hl 0 rfl) ?_
  refine lv_bipush (v := 13) E.1 E.2.1 dX4_init_24 (by decide) ?_
  refine m_newi E G (N' := 13) (by decide) (by decide) (by decide) (by decide) (by decide) dX4_init_26 (fun q_2 H G => ?_)
  have G : mG D A s H locs [(h0, .inr (4, [.int 0, .ref q_1, .int 0, .null, .null, .null])), (q_1, .inl (K 0, 400, .inl (fun _ => 0))), (q_2, .inl (K 0, 13, .inl (fun _ => 0)))] := G
  refine m_putF E G hN 0 (ci := 4) rfl 3 (C := RX4) (T := TX4) (N := 6) rfl (by decide) mw_fl_4_22 rfl rfl rfl rfl (Nat.le_of_ble_eq_true rfl) dX4_init_28 (fun H locs G => ?_)
  have G : mG D A s H locs [(h0, .inr (4, [.int 0, .ref q_1, .int 0, .ref q_2, .null, .null])), (q_1, .inl (K 0, 400, .inl (fun _ => 0))), (q_2, .inl (K 0, 13, .inl (fun _ => 0)))] := G
  refine lv_aload_n E.1 E.2.1 dX4_init_31 rfl (lv_at hl 0 rfl) ?_
  refine lv_bipush (v := 13) E.1 E.2.1 dX4_init_32 (by decide) ?_
  refine m_newi E G (N' := 13) (by decide) (by decide) (by decide) (by decide) (by decide) dX4_init_34 (fun q_3 H G => ?_)
  have G : mG D A s H locs [(h0, .inr (4, [.int 0, .ref q_1, .int 0, .ref q_2, .null, .null])), (q_1, .inl (K 0, 400, .inl (fun _ => 0))), (q_2, .inl (K 0, 13, .inl (fun _ => 0))), (q_3, .inl (K 0, 13, .inl (fun _ => 0)))] := G
  refine m_putF E G hN 0 (ci := 4) rfl 4 (C := RX4) (T := TX4) (N := 6) rfl (by decide) mw_fl_4_25 rfl rfl rfl rfl (Nat.le_of_ble_eq_true rfl) dX4_init_36 (fun H locs G => ?_)
  have G : mG D A s H locs [(h0, .inr (4, [.int 0, .ref q_1, .int 0, .ref q_2, .ref q_3, .null])), (q_1, .inl (K 0, 400, .inl (fun _ => 0))), (q_2, .inl (K 0, 13, .inl (fun _ => 0))), (q_3, .inl (K 0, 13, .inl (fun _ => 0)))] := G
  refine lv_aload_n E.1 E.2.1 dX4_init_39 rfl (lv_at hl 0 rfl) ?_
  refine lv_bipush (v := 61) E.1 E.2.1 dX4_init_40 (by decide) ?_
  refine m_newl E G (N' := 61) (by decide) (by decide) (by decide) (by decide) (by decide) dX4_init_42 (fun q_4 H G => ?_)
  have G : mG D A s H locs [(h0, .inr (4, [.int 0, .ref q_1, .int 0, .ref q_2, .ref q_3, .null])), (q_1, .inl (K 0, 400, .inl (fun _ => 0))), (q_2, .inl (K 0, 13, .inl (fun _ => 0))), (q_3, .inl (K 0, 13, .inl (fun _ => 0))), (q_4, .inl (K 2, 61, .inr (.inl (fun _ => 0))))] := G
  refine m_putF E G hN 0 (ci := 4) rfl 5 (C := RX4) (T := TX4) (N := 6) rfl (by decide) mw_fl_4_28 rfl rfl rfl rfl (Nat.le_of_ble_eq_true rfl) dX4_init_44 (fun H locs G => ?_)
  have G : mG D A s H locs [(h0, .inr (4, [.int 0, .ref q_1, .int 0, .ref q_2, .ref q_3, .ref q_4])), (q_1, .inl (K 0, 400, .inl (fun _ => 0))), (q_2, .inl (K 0, 13, .inl (fun _ => 0))), (q_3, .inl (K 0, 13, .inl (fun _ => 0))), (q_4, .inl (K 2, 61, .inr (.inl (fun _ => 0))))] := G
  exact m_retv E G hr (fun k => [q_1, q_2, q_3, q_4].getD k 0, fun _ _ => 0, fun _ _ => none) trivial [0, 3] (by decide) rfl (by decide) (by decide) dX4_init_47
end
