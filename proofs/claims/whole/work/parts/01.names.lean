-- ===== PART A: goes FIRST, ahead of the names: the tables' words, and 'selects' of the private methods out of them =====
/-- a private method of a class that the tables say can be made, by its rows of tables_1 -/
def lw_okq (q : MethodName × Nat) : Prop := (q.1.cls ≠ "java/lang/invoke/MethodHandle" ∧ q.1.cls ≠ "java/lang/invoke/VarHandle") ∧ Cond.instantiable q.1.cls q.2 ∈ tables_1 ∧ Cond.privateMethod q.1 ∈ tables_1 ∧ Cond.instanceMethod q.1 ∈ tables_1
theorem lw_p0 : lw_okq (⟨"WhatIfSheet$Names", "arrange", "(LWhatIfSheet$Board;)V"⟩, 6) := ⟨⟨by decide +kernel, by decide +kernel⟩, List.mem_of_getElem? (i := 237) (by decide +kernel), List.mem_of_getElem? (i := 435) (by decide +kernel), List.mem_of_getElem? (i := 436) (by decide +kernel)⟩
theorem lw_p1 : lw_okq (⟨"WhatIfSheet$Names", "learnTable", "(LWhatIfSheet$Board;I)V"⟩, 6) := ⟨⟨by decide +kernel, by decide +kernel⟩, List.mem_of_getElem? (i := 237) (by decide +kernel), List.mem_of_getElem? (i := 445) (by decide +kernel), List.mem_of_getElem? (i := 446) (by decide +kernel)⟩
theorem lw_p2 : lw_okq (⟨"WhatIfSheet$Names", "learnFormula", "(LWhatIfSheet$Board;I)V"⟩, 6) := ⟨⟨by decide +kernel, by decide +kernel⟩, List.mem_of_getElem? (i := 237) (by decide +kernel), List.mem_of_getElem? (i := 462) (by decide +kernel), List.mem_of_getElem? (i := 463) (by decide +kernel)⟩
theorem lw_p3 : lw_okq (⟨"WhatIfSheet$Names", "learnInput", "(I)V"⟩, 6) := ⟨⟨by decide +kernel, by decide +kernel⟩, List.mem_of_getElem? (i := 237) (by decide +kernel), List.mem_of_getElem? (i := 470) (by decide +kernel), List.mem_of_getElem? (i := 471) (by decide +kernel)⟩
theorem lw_p4 : lw_okq (⟨"WhatIfSheet", "wrongNow", "(I)I"⟩, 9) := ⟨⟨by decide +kernel, by decide +kernel⟩, List.mem_of_getElem? (i := 21) (by decide +kernel), List.mem_of_getElem? (i := 485) (by decide +kernel), List.mem_of_getElem? (i := 486) (by decide +kernel)⟩
theorem lw_p5 : lw_okq (⟨"WhatIfSheet$Teller", "tellCells", "(II)V"⟩, 8) := ⟨⟨by decide +kernel, by decide +kernel⟩, List.mem_of_getElem? (i := 229) (by decide +kernel), List.mem_of_getElem? (i := 497) (by decide +kernel), List.mem_of_getElem? (i := 498) (by decide +kernel)⟩
theorem lw_p6 : lw_okq (⟨"WhatIfSheet$Teller", "tellFormula", "(II)V"⟩, 8) := ⟨⟨by decide +kernel, by decide +kernel⟩, List.mem_of_getElem? (i := 229) (by decide +kernel), List.mem_of_getElem? (i := 503) (by decide +kernel), List.mem_of_getElem? (i := 504) (by decide +kernel)⟩
theorem lw_p7 : lw_okq (⟨"WhatIfSheet$Teller", "push", "(DI)V"⟩, 8) := ⟨⟨by decide +kernel, by decide +kernel⟩, List.mem_of_getElem? (i := 229) (by decide +kernel), List.mem_of_getElem? (i := 509) (by decide +kernel), List.mem_of_getElem? (i := 510) (by decide +kernel)⟩
theorem lw_p8 : lw_okq (⟨"WhatIfSheet$Teller", "ask", "(IIII)V"⟩, 8) := ⟨⟨by decide +kernel, by decide +kernel⟩, List.mem_of_getElem? (i := 229) (by decide +kernel), List.mem_of_getElem? (i := 517) (by decide +kernel), List.mem_of_getElem? (i := 518) (by decide +kernel)⟩
theorem lw_p9 : lw_okq (⟨"WhatIfSheet$Teller", "tellTable", "(II)V"⟩, 8) := ⟨⟨by decide +kernel, by decide +kernel⟩, List.mem_of_getElem? (i := 229) (by decide +kernel), List.mem_of_getElem? (i := 521) (by decide +kernel), List.mem_of_getElem? (i := 522) (by decide +kernel)⟩
theorem lw_p10 : lw_okq (⟨"WhatIfSheet$Tally", "takeNumber", "(D)V"⟩, 10) := ⟨⟨by decide +kernel, by decide +kernel⟩, List.mem_of_getElem? (i := 273) (by decide +kernel), List.mem_of_getElem? (i := 550) (by decide +kernel), List.mem_of_getElem? (i := 551) (by decide +kernel)⟩
theorem lw_p11 : lw_okq (⟨"WhatIfSheet$Teller", "negate", "()V"⟩, 8) := ⟨⟨by decide +kernel, by decide +kernel⟩, List.mem_of_getElem? (i := 229) (by decide +kernel), List.mem_of_getElem? (i := 564) (by decide +kernel), List.mem_of_getElem? (i := 565) (by decide +kernel)⟩
theorem lw_p12 : lw_okq (⟨"WhatIfSheet$Teller", "pickPart", "()V"⟩, 8) := ⟨⟨by decide +kernel, by decide +kernel⟩, List.mem_of_getElem? (i := 229) (by decide +kernel), List.mem_of_getElem? (i := 568) (by decide +kernel), List.mem_of_getElem? (i := 569) (by decide +kernel)⟩
theorem lw_p13 : lw_okq (⟨"WhatIfSheet$Teller", "workOnTwo", "(II)V"⟩, 8) := ⟨⟨by decide +kernel, by decide +kernel⟩, List.mem_of_getElem? (i := 229) (by decide +kernel), List.mem_of_getElem? (i := 572) (by decide +kernel), List.mem_of_getElem? (i := 573) (by decide +kernel)⟩
theorem lw_p14 : lw_okq (⟨"WhatIfSheet$Reader", "look", "()V"⟩, 8) := ⟨⟨by decide +kernel, by decide +kernel⟩, List.mem_of_getElem? (i := 147) (by decide +kernel), List.mem_of_getElem? (i := 637) (by decide +kernel), List.mem_of_getElem? (i := 638) (by decide +kernel)⟩
theorem lw_p15 : lw_okq (⟨"WhatIfSheet$Reader", "lookAtWord", "()V"⟩, 8) := ⟨⟨by decide +kernel, by decide +kernel⟩, List.mem_of_getElem? (i := 147) (by decide +kernel), List.mem_of_getElem? (i := 647) (by decide +kernel), List.mem_of_getElem? (i := 648) (by decide +kernel)⟩
def lw_privs_1 : List (MethodName × Nat) := [(⟨"WhatIfSheet$Names", "arrange", "(LWhatIfSheet$Board;)V"⟩, 6), (⟨"WhatIfSheet$Names", "learnTable", "(LWhatIfSheet$Board;I)V"⟩, 6), (⟨"WhatIfSheet$Names", "learnFormula", "(LWhatIfSheet$Board;I)V"⟩, 6), (⟨"WhatIfSheet$Names", "learnInput", "(I)V"⟩, 6), (⟨"WhatIfSheet", "wrongNow", "(I)I"⟩, 9), (⟨"WhatIfSheet$Teller", "tellCells", "(II)V"⟩, 8), (⟨"WhatIfSheet$Teller", "tellFormula", "(II)V"⟩, 8), (⟨"WhatIfSheet$Teller", "push", "(DI)V"⟩, 8), (⟨"WhatIfSheet$Teller", "ask", "(IIII)V"⟩, 8), (⟨"WhatIfSheet$Teller", "tellTable", "(II)V"⟩, 8), (⟨"WhatIfSheet$Tally", "takeNumber", "(D)V"⟩, 10), (⟨"WhatIfSheet$Teller", "negate", "()V"⟩, 8), (⟨"WhatIfSheet$Teller", "pickPart", "()V"⟩, 8), (⟨"WhatIfSheet$Teller", "workOnTwo", "(II)V"⟩, 8), (⟨"WhatIfSheet$Reader", "look", "()V"⟩, 8), (⟨"WhatIfSheet$Reader", "lookAtWord", "()V"⟩, 8)]
theorem lw_r1 : ∀ q ∈ lw_privs_1, lw_okq q := List.forall_mem_cons.mpr ⟨lw_p0, List.forall_mem_cons.mpr ⟨lw_p1, List.forall_mem_cons.mpr ⟨lw_p2, List.forall_mem_cons.mpr ⟨lw_p3, List.forall_mem_cons.mpr ⟨lw_p4, List.forall_mem_cons.mpr ⟨lw_p5, List.forall_mem_cons.mpr ⟨lw_p6, List.forall_mem_cons.mpr ⟨lw_p7, List.forall_mem_cons.mpr ⟨lw_p8, List.forall_mem_cons.mpr ⟨lw_p9, List.forall_mem_cons.mpr ⟨lw_p10, List.forall_mem_cons.mpr ⟨lw_p11, List.forall_mem_cons.mpr ⟨lw_p12, List.forall_mem_cons.mpr ⟨lw_p13, List.forall_mem_cons.mpr ⟨lw_p14, List.forall_mem_cons.mpr ⟨lw_p15, fun _ h => absurd h List.not_mem_nil⟩⟩⟩⟩⟩⟩⟩⟩⟩⟩⟩⟩⟩⟩⟩⟩
theorem lw_p16 : lw_okq (⟨"WhatIfSheet$Reader", "isWord", "(Ljava/lang/String;)Z"⟩, 8) := ⟨⟨by decide +kernel, by decide +kernel⟩, List.mem_of_getElem? (i := 147) (by decide +kernel), List.mem_of_getElem? (i := 652) (by decide +kernel), List.mem_of_getElem? (i := 653) (by decide +kernel)⟩
theorem lw_p17 : lw_okq (⟨"WhatIfSheet$Reader", "lookAtNumber", "()V"⟩, 8) := ⟨⟨by decide +kernel, by decide +kernel⟩, List.mem_of_getElem? (i := 147) (by decide +kernel), List.mem_of_getElem? (i := 714) (by decide +kernel), List.mem_of_getElem? (i := 715) (by decide +kernel)⟩
theorem lw_p18 : lw_okq (⟨"WhatIfSheet$Reader", "readWhole", "(I)V"⟩, 8) := ⟨⟨by decide +kernel, by decide +kernel⟩, List.mem_of_getElem? (i := 147) (by decide +kernel), List.mem_of_getElem? (i := 721) (by decide +kernel), List.mem_of_getElem? (i := 722) (by decide +kernel)⟩
theorem lw_p19 : lw_okq (⟨"WhatIfSheet$Reader", "readSum", "(I)V"⟩, 8) := ⟨⟨by decide +kernel, by decide +kernel⟩, List.mem_of_getElem? (i := 147) (by decide +kernel), List.mem_of_getElem? (i := 725) (by decide +kernel), List.mem_of_getElem? (i := 726) (by decide +kernel)⟩
theorem lw_p20 : lw_okq (⟨"WhatIfSheet$Reader", "readTerm", "(I)V"⟩, 8) := ⟨⟨by decide +kernel, by decide +kernel⟩, List.mem_of_getElem? (i := 147) (by decide +kernel), List.mem_of_getElem? (i := 729) (by decide +kernel), List.mem_of_getElem? (i := 730) (by decide +kernel)⟩
theorem lw_p21 : lw_okq (⟨"WhatIfSheet$Reader", "readOne", "(I)V"⟩, 8) := ⟨⟨by decide +kernel, by decide +kernel⟩, List.mem_of_getElem? (i := 147) (by decide +kernel), List.mem_of_getElem? (i := 733) (by decide +kernel), List.mem_of_getElem? (i := 734) (by decide +kernel)⟩
theorem lw_p22 : lw_okq (⟨"WhatIfSheet$Reader", "readCall", "(I)V"⟩, 8) := ⟨⟨by decide +kernel, by decide +kernel⟩, List.mem_of_getElem? (i := 147) (by decide +kernel), List.mem_of_getElem? (i := 745) (by decide +kernel), List.mem_of_getElem? (i := 746) (by decide +kernel)⟩
theorem lw_p23 : lw_okq (⟨"WhatIfSheet$Reader", "readParts", "(II)V"⟩, 8) := ⟨⟨by decide +kernel, by decide +kernel⟩, List.mem_of_getElem? (i := 147) (by decide +kernel), List.mem_of_getElem? (i := 749) (by decide +kernel), List.mem_of_getElem? (i := 750) (by decide +kernel)⟩
theorem lw_p24 : lw_okq (⟨"WhatIfSheet$Reader", "stop", "()V"⟩, 8) := ⟨⟨by decide +kernel, by decide +kernel⟩, List.mem_of_getElem? (i := 147) (by decide +kernel), List.mem_of_getElem? (i := 753) (by decide +kernel), List.mem_of_getElem? (i := 754) (by decide +kernel)⟩
theorem lw_p25 : lw_okq (⟨"WhatIfSheet$Reader", "readQuestion", "()V"⟩, 8) := ⟨⟨by decide +kernel, by decide +kernel⟩, List.mem_of_getElem? (i := 147) (by decide +kernel), List.mem_of_getElem? (i := 757) (by decide +kernel), List.mem_of_getElem? (i := 758) (by decide +kernel)⟩
theorem lw_p26 : lw_okq (⟨"WhatIfSheet$Reader", "readNegated", "(I)V"⟩, 8) := ⟨⟨by decide +kernel, by decide +kernel⟩, List.mem_of_getElem? (i := 147) (by decide +kernel), List.mem_of_getElem? (i := 765) (by decide +kernel), List.mem_of_getElem? (i := 766) (by decide +kernel)⟩
theorem lw_p27 : lw_okq (⟨"WhatIfSheet$Reader", "isByTerm", "()Z"⟩, 8) := ⟨⟨by decide +kernel, by decide +kernel⟩, List.mem_of_getElem? (i := 147) (by decide +kernel), List.mem_of_getElem? (i := 769) (by decide +kernel), List.mem_of_getElem? (i := 770) (by decide +kernel)⟩
theorem lw_p28 : lw_okq (⟨"WhatIfSheet", "takeFormula", "(I)Z"⟩, 9) := ⟨⟨by decide +kernel, by decide +kernel⟩, List.mem_of_getElem? (i := 21) (by decide +kernel), List.mem_of_getElem? (i := 786) (by decide +kernel), List.mem_of_getElem? (i := 787) (by decide +kernel)⟩
theorem lw_p29 : lw_okq (⟨"WhatIfSheet", "laySpare", "(I)Z"⟩, 9) := ⟨⟨by decide +kernel, by decide +kernel⟩, List.mem_of_getElem? (i := 21) (by decide +kernel), List.mem_of_getElem? (i := 804) (by decide +kernel), List.mem_of_getElem? (i := 805) (by decide +kernel)⟩
theorem lw_p30 : lw_okq (⟨"WhatIfSheet", "canVary", "(II)Z"⟩, 9) := ⟨⟨by decide +kernel, by decide +kernel⟩, List.mem_of_getElem? (i := 21) (by decide +kernel), List.mem_of_getElem? (i := 813) (by decide +kernel), List.mem_of_getElem? (i := 814) (by decide +kernel)⟩
theorem lw_p31 : lw_okq (⟨"WhatIfSheet", "refuseCase", "(III)I"⟩, 9) := ⟨⟨by decide +kernel, by decide +kernel⟩, List.mem_of_getElem? (i := 21) (by decide +kernel), List.mem_of_getElem? (i := 854) (by decide +kernel), List.mem_of_getElem? (i := 855) (by decide +kernel)⟩
def lw_privs_2 : List (MethodName × Nat) := [(⟨"WhatIfSheet$Reader", "isWord", "(Ljava/lang/String;)Z"⟩, 8), (⟨"WhatIfSheet$Reader", "lookAtNumber", "()V"⟩, 8), (⟨"WhatIfSheet$Reader", "readWhole", "(I)V"⟩, 8), (⟨"WhatIfSheet$Reader", "readSum", "(I)V"⟩, 8), (⟨"WhatIfSheet$Reader", "readTerm", "(I)V"⟩, 8), (⟨"WhatIfSheet$Reader", "readOne", "(I)V"⟩, 8), (⟨"WhatIfSheet$Reader", "readCall", "(I)V"⟩, 8), (⟨"WhatIfSheet$Reader", "readParts", "(II)V"⟩, 8), (⟨"WhatIfSheet$Reader", "stop", "()V"⟩, 8), (⟨"WhatIfSheet$Reader", "readQuestion", "()V"⟩, 8), (⟨"WhatIfSheet$Reader", "readNegated", "(I)V"⟩, 8), (⟨"WhatIfSheet$Reader", "isByTerm", "()Z"⟩, 8), (⟨"WhatIfSheet", "takeFormula", "(I)Z"⟩, 9), (⟨"WhatIfSheet", "laySpare", "(I)Z"⟩, 9), (⟨"WhatIfSheet", "canVary", "(II)Z"⟩, 9), (⟨"WhatIfSheet", "refuseCase", "(III)I"⟩, 9)]
theorem lw_r2 : ∀ q ∈ lw_privs_2, lw_okq q := List.forall_mem_cons.mpr ⟨lw_p16, List.forall_mem_cons.mpr ⟨lw_p17, List.forall_mem_cons.mpr ⟨lw_p18, List.forall_mem_cons.mpr ⟨lw_p19, List.forall_mem_cons.mpr ⟨lw_p20, List.forall_mem_cons.mpr ⟨lw_p21, List.forall_mem_cons.mpr ⟨lw_p22, List.forall_mem_cons.mpr ⟨lw_p23, List.forall_mem_cons.mpr ⟨lw_p24, List.forall_mem_cons.mpr ⟨lw_p25, List.forall_mem_cons.mpr ⟨lw_p26, List.forall_mem_cons.mpr ⟨lw_p27, List.forall_mem_cons.mpr ⟨lw_p28, List.forall_mem_cons.mpr ⟨lw_p29, List.forall_mem_cons.mpr ⟨lw_p30, List.forall_mem_cons.mpr ⟨lw_p31, fun _ h => absurd h List.not_mem_nil⟩⟩⟩⟩⟩⟩⟩⟩⟩⟩⟩⟩⟩⟩⟩⟩
theorem lw_p32 : lw_okq (⟨"WhatIfSheet", "wrongIn", "(III)I"⟩, 9) := ⟨⟨by decide +kernel, by decide +kernel⟩, List.mem_of_getElem? (i := 21) (by decide +kernel), List.mem_of_getElem? (i := 859) (by decide +kernel), List.mem_of_getElem? (i := 860) (by decide +kernel)⟩
theorem lw_p33 : lw_okq (⟨"WhatIfSheet", "tallyNow", "(I)LWhatIfSheet$Tally;"⟩, 9) := ⟨⟨by decide +kernel, by decide +kernel⟩, List.mem_of_getElem? (i := 21) (by decide +kernel), List.mem_of_getElem? (i := 873) (by decide +kernel), List.mem_of_getElem? (i := 874) (by decide +kernel)⟩
theorem lw_p34 : lw_okq (⟨"WhatIfSheet$Names", "learnLeast", "(LWhatIfSheet$Board;I)V"⟩, 6) := ⟨⟨by decide +kernel, by decide +kernel⟩, List.mem_of_getElem? (i := 237) (by decide +kernel), List.mem_of_getElem? (i := 893) (by decide +kernel), List.mem_of_getElem? (i := 894) (by decide +kernel)⟩
theorem lw_p35 : lw_okq (⟨"WhatIfSheet", "closeIn", "(II)V"⟩, 9) := ⟨⟨by decide +kernel, by decide +kernel⟩, List.mem_of_getElem? (i := 21) (by decide +kernel), List.mem_of_getElem? (i := 919) (by decide +kernel), List.mem_of_getElem? (i := 920) (by decide +kernel)⟩
theorem lw_p36 : lw_okq (⟨"WhatIfSheet", "apartBy", "(IID)D"⟩, 9) := ⟨⟨by decide +kernel, by decide +kernel⟩, List.mem_of_getElem? (i := 21) (by decide +kernel), List.mem_of_getElem? (i := 960) (by decide +kernel), List.mem_of_getElem? (i := 961) (by decide +kernel)⟩
theorem lw_p37 : lw_okq (⟨"WhatIfSheet", "kindsSo", "(ILWhatIfSheet$Row;I)I"⟩, 9) := ⟨⟨by decide +kernel, by decide +kernel⟩, List.mem_of_getElem? (i := 21) (by decide +kernel), List.mem_of_getElem? (i := 998) (by decide +kernel), List.mem_of_getElem? (i := 999) (by decide +kernel)⟩
theorem lw_p38 : lw_okq (⟨"WhatIfSheet", "numbersSo", "(ILWhatIfSheet$Row;IZ)I"⟩, 9) := ⟨⟨by decide +kernel, by decide +kernel⟩, List.mem_of_getElem? (i := 21) (by decide +kernel), List.mem_of_getElem? (i := 1002) (by decide +kernel), List.mem_of_getElem? (i := 1003) (by decide +kernel)⟩
theorem lw_p39 : lw_okq (⟨"WhatIfSheetModel", "isInput", "(I)Z"⟩, 76) := ⟨⟨by decide +kernel, by decide +kernel⟩, List.mem_of_getElem? (i := 1065) (by decide +kernel), List.mem_of_getElem? (i := 1319) (by decide +kernel), List.mem_of_getElem? (i := 1320) (by decide +kernel)⟩
theorem lw_p40 : lw_okq (⟨"WhatIfSheetModel", "tellNames", "(I)V"⟩, 76) := ⟨⟨by decide +kernel, by decide +kernel⟩, List.mem_of_getElem? (i := 1065) (by decide +kernel), List.mem_of_getElem? (i := 1337) (by decide +kernel), List.mem_of_getElem? (i := 1338) (by decide +kernel)⟩
theorem lw_p41 : lw_okq (⟨"WhatIfSheetModel", "reads", "(I)I"⟩, 76) := ⟨⟨by decide +kernel, by decide +kernel⟩, List.mem_of_getElem? (i := 1065) (by decide +kernel), List.mem_of_getElem? (i := 1349) (by decide +kernel), List.mem_of_getElem? (i := 1350) (by decide +kernel)⟩
theorem lw_p42 : lw_okq (⟨"WhatIfSheetModel", "readOf", "(I)I"⟩, 76) := ⟨⟨by decide +kernel, by decide +kernel⟩, List.mem_of_getElem? (i := 1065) (by decide +kernel), List.mem_of_getElem? (i := 1353) (by decide +kernel), List.mem_of_getElem? (i := 1354) (by decide +kernel)⟩
theorem lw_p43 : lw_okq (⟨"WhatIfSheetModel", "namesCells", "(I)I"⟩, 76) := ⟨⟨by decide +kernel, by decide +kernel⟩, List.mem_of_getElem? (i := 1065) (by decide +kernel), List.mem_of_getElem? (i := 1357) (by decide +kernel), List.mem_of_getElem? (i := 1358) (by decide +kernel)⟩
theorem lw_p44 : lw_okq (⟨"WhatIfSheetModel", "times", "(II)I"⟩, 76) := ⟨⟨by decide +kernel, by decide +kernel⟩, List.mem_of_getElem? (i := 1065) (by decide +kernel), List.mem_of_getElem? (i := 1361) (by decide +kernel), List.mem_of_getElem? (i := 1362) (by decide +kernel)⟩
theorem lw_p45 : lw_okq (⟨"WhatIfSheetModel", "varied", "(I)I"⟩, 76) := ⟨⟨by decide +kernel, by decide +kernel⟩, List.mem_of_getElem? (i := 1065) (by decide +kernel), List.mem_of_getElem? (i := 1365) (by decide +kernel), List.mem_of_getElem? (i := 1366) (by decide +kernel)⟩
theorem lw_p46 : lw_okq (⟨"WhatIfSheetModel", "reached", "(I)I"⟩, 76) := ⟨⟨by decide +kernel, by decide +kernel⟩, List.mem_of_getElem? (i := 1065) (by decide +kernel), List.mem_of_getElem? (i := 1369) (by decide +kernel), List.mem_of_getElem? (i := 1370) (by decide +kernel)⟩
theorem lw_p47 : lw_okq (⟨"WhatIfSheetModel", "burdenNow", "(I)I"⟩, 76) := ⟨⟨by decide +kernel, by decide +kernel⟩, List.mem_of_getElem? (i := 1065) (by decide +kernel), List.mem_of_getElem? (i := 1373) (by decide +kernel), List.mem_of_getElem? (i := 1374) (by decide +kernel)⟩
def lw_privs_3 : List (MethodName × Nat) := [(⟨"WhatIfSheet", "wrongIn", "(III)I"⟩, 9), (⟨"WhatIfSheet", "tallyNow", "(I)LWhatIfSheet$Tally;"⟩, 9), (⟨"WhatIfSheet$Names", "learnLeast", "(LWhatIfSheet$Board;I)V"⟩, 6), (⟨"WhatIfSheet", "closeIn", "(II)V"⟩, 9), (⟨"WhatIfSheet", "apartBy", "(IID)D"⟩, 9), (⟨"WhatIfSheet", "kindsSo", "(ILWhatIfSheet$Row;I)I"⟩, 9), (⟨"WhatIfSheet", "numbersSo", "(ILWhatIfSheet$Row;IZ)I"⟩, 9), (⟨"WhatIfSheetModel", "isInput", "(I)Z"⟩, 76), (⟨"WhatIfSheetModel", "tellNames", "(I)V"⟩, 76), (⟨"WhatIfSheetModel", "reads", "(I)I"⟩, 76), (⟨"WhatIfSheetModel", "readOf", "(I)I"⟩, 76), (⟨"WhatIfSheetModel", "namesCells", "(I)I"⟩, 76), (⟨"WhatIfSheetModel", "times", "(II)I"⟩, 76), (⟨"WhatIfSheetModel", "varied", "(I)I"⟩, 76), (⟨"WhatIfSheetModel", "reached", "(I)I"⟩, 76), (⟨"WhatIfSheetModel", "burdenNow", "(I)I"⟩, 76)]
theorem lw_r3 : ∀ q ∈ lw_privs_3, lw_okq q := List.forall_mem_cons.mpr ⟨lw_p32, List.forall_mem_cons.mpr ⟨lw_p33, List.forall_mem_cons.mpr ⟨lw_p34, List.forall_mem_cons.mpr ⟨lw_p35, List.forall_mem_cons.mpr ⟨lw_p36, List.forall_mem_cons.mpr ⟨lw_p37, List.forall_mem_cons.mpr ⟨lw_p38, List.forall_mem_cons.mpr ⟨lw_p39, List.forall_mem_cons.mpr ⟨lw_p40, List.forall_mem_cons.mpr ⟨lw_p41, List.forall_mem_cons.mpr ⟨lw_p42, List.forall_mem_cons.mpr ⟨lw_p43, List.forall_mem_cons.mpr ⟨lw_p44, List.forall_mem_cons.mpr ⟨lw_p45, List.forall_mem_cons.mpr ⟨lw_p46, List.forall_mem_cons.mpr ⟨lw_p47, fun _ h => absurd h List.not_mem_nil⟩⟩⟩⟩⟩⟩⟩⟩⟩⟩⟩⟩⟩⟩⟩⟩
theorem lw_p48 : lw_okq (⟨"WhatIfSheetModel", "burdenOf", "(I)I"⟩, 76) := ⟨⟨by decide +kernel, by decide +kernel⟩, List.mem_of_getElem? (i := 1065) (by decide +kernel), List.mem_of_getElem? (i := 1377) (by decide +kernel), List.mem_of_getElem? (i := 1378) (by decide +kernel)⟩
theorem lw_p49 : lw_okq (⟨"WhatIfSheetModel", "burdenOfTable", "(I)I"⟩, 76) := ⟨⟨by decide +kernel, by decide +kernel⟩, List.mem_of_getElem? (i := 1065) (by decide +kernel), List.mem_of_getElem? (i := 1381) (by decide +kernel), List.mem_of_getElem? (i := 1382) (by decide +kernel)⟩
theorem lw_p50 : lw_okq (⟨"WhatIfSheetModel", "cases", "(I)I"⟩, 76) := ⟨⟨by decide +kernel, by decide +kernel⟩, List.mem_of_getElem? (i := 1065) (by decide +kernel), List.mem_of_getElem? (i := 1386) (by decide +kernel), List.mem_of_getElem? (i := 1387) (by decide +kernel)⟩
theorem lw_p51 : lw_okq (⟨"WhatIfSheetModel", "tellNow", "(I)V"⟩, 76) := ⟨⟨by decide +kernel, by decide +kernel⟩, List.mem_of_getElem? (i := 1065) (by decide +kernel), List.mem_of_getElem? (i := 1397) (by decide +kernel), List.mem_of_getElem? (i := 1398) (by decide +kernel)⟩
theorem lw_p52 : lw_okq (⟨"WhatIfSheetModel", "afresh", "()V"⟩, 76) := ⟨⟨by decide +kernel, by decide +kernel⟩, List.mem_of_getElem? (i := 1065) (by decide +kernel), List.mem_of_getElem? (i := 1401) (by decide +kernel), List.mem_of_getElem? (i := 1402) (by decide +kernel)⟩
theorem lw_p53 : lw_okq (⟨"WhatIfSheetModel", "tell", "(I)V"⟩, 76) := ⟨⟨by decide +kernel, by decide +kernel⟩, List.mem_of_getElem? (i := 1065) (by decide +kernel), List.mem_of_getElem? (i := 1405) (by decide +kernel), List.mem_of_getElem? (i := 1406) (by decide +kernel)⟩
theorem lw_p54 : lw_okq (⟨"WhatIfSheetModel", "act", "(II)V"⟩, 76) := ⟨⟨by decide +kernel, by decide +kernel⟩, List.mem_of_getElem? (i := 1065) (by decide +kernel), List.mem_of_getElem? (i := 1409) (by decide +kernel), List.mem_of_getElem? (i := 1410) (by decide +kernel)⟩
theorem lw_p55 : lw_okq (⟨"WhatIfSheetModel", "push", "(DII)V"⟩, 76) := ⟨⟨by decide +kernel, by decide +kernel⟩, List.mem_of_getElem? (i := 1065) (by decide +kernel), List.mem_of_getElem? (i := 1413) (by decide +kernel), List.mem_of_getElem? (i := 1414) (by decide +kernel)⟩
theorem lw_p56 : lw_okq (⟨"WhatIfSheetModel", "sumUp", "(I)V"⟩, 76) := ⟨⟨by decide +kernel, by decide +kernel⟩, List.mem_of_getElem? (i := 1065) (by decide +kernel), List.mem_of_getElem? (i := 1417) (by decide +kernel), List.mem_of_getElem? (i := 1418) (by decide +kernel)⟩
theorem lw_p57 : lw_okq (⟨"WhatIfSheetModel", "tellCase", "(III)V"⟩, 76) := ⟨⟨by decide +kernel, by decide +kernel⟩, List.mem_of_getElem? (i := 1065) (by decide +kernel), List.mem_of_getElem? (i := 1421) (by decide +kernel), List.mem_of_getElem? (i := 1422) (by decide +kernel)⟩
theorem lw_p58 : lw_okq (⟨"WhatIfSheetModel", "pick", "()V"⟩, 76) := ⟨⟨by decide +kernel, by decide +kernel⟩, List.mem_of_getElem? (i := 1065) (by decide +kernel), List.mem_of_getElem? (i := 1427) (by decide +kernel), List.mem_of_getElem? (i := 1428) (by decide +kernel)⟩
theorem lw_p59 : lw_okq (⟨"WhatIfSheetModel", "two", "(II)V"⟩, 76) := ⟨⟨by decide +kernel, by decide +kernel⟩, List.mem_of_getElem? (i := 1065) (by decide +kernel), List.mem_of_getElem? (i := 1431) (by decide +kernel), List.mem_of_getElem? (i := 1432) (by decide +kernel)⟩
theorem lw_p60 : lw_okq (⟨"WhatIfSheetModel", "valueNow", "(I)D"⟩, 76) := ⟨⟨by decide +kernel, by decide +kernel⟩, List.mem_of_getElem? (i := 1065) (by decide +kernel), List.mem_of_getElem? (i := 1440) (by decide +kernel), List.mem_of_getElem? (i := 1441) (by decide +kernel)⟩
theorem lw_p61 : lw_okq (⟨"WhatIfSheetModel", "errorOf", "(I)I"⟩, 76) := ⟨⟨by decide +kernel, by decide +kernel⟩, List.mem_of_getElem? (i := 1065) (by decide +kernel), List.mem_of_getElem? (i := 1444) (by decide +kernel), List.mem_of_getElem? (i := 1445) (by decide +kernel)⟩
theorem lw_p62 : lw_okq (⟨"WhatIfSheetModel", "valueBy", "(IDI)D"⟩, 76) := ⟨⟨by decide +kernel, by decide +kernel⟩, List.mem_of_getElem? (i := 1065) (by decide +kernel), List.mem_of_getElem? (i := 1470) (by decide +kernel), List.mem_of_getElem? (i := 1471) (by decide +kernel)⟩
theorem lw_p63 : lw_okq (⟨"WhatIfSheetModel", "isRead", "()Z"⟩, 76) := ⟨⟨by decide +kernel, by decide +kernel⟩, List.mem_of_getElem? (i := 1065) (by decide +kernel), List.mem_of_getElem? (i := 1489) (by decide +kernel), List.mem_of_getElem? (i := 1490) (by decide +kernel)⟩
def lw_privs_4 : List (MethodName × Nat) := [(⟨"WhatIfSheetModel", "burdenOf", "(I)I"⟩, 76), (⟨"WhatIfSheetModel", "burdenOfTable", "(I)I"⟩, 76), (⟨"WhatIfSheetModel", "cases", "(I)I"⟩, 76), (⟨"WhatIfSheetModel", "tellNow", "(I)V"⟩, 76), (⟨"WhatIfSheetModel", "afresh", "()V"⟩, 76), (⟨"WhatIfSheetModel", "tell", "(I)V"⟩, 76), (⟨"WhatIfSheetModel", "act", "(II)V"⟩, 76), (⟨"WhatIfSheetModel", "push", "(DII)V"⟩, 76), (⟨"WhatIfSheetModel", "sumUp", "(I)V"⟩, 76), (⟨"WhatIfSheetModel", "tellCase", "(III)V"⟩, 76), (⟨"WhatIfSheetModel", "pick", "()V"⟩, 76), (⟨"WhatIfSheetModel", "two", "(II)V"⟩, 76), (⟨"WhatIfSheetModel", "valueNow", "(I)D"⟩, 76), (⟨"WhatIfSheetModel", "errorOf", "(I)I"⟩, 76), (⟨"WhatIfSheetModel", "valueBy", "(IDI)D"⟩, 76), (⟨"WhatIfSheetModel", "isRead", "()Z"⟩, 76)]
theorem lw_r4 : ∀ q ∈ lw_privs_4, lw_okq q := List.forall_mem_cons.mpr ⟨lw_p48, List.forall_mem_cons.mpr ⟨lw_p49, List.forall_mem_cons.mpr ⟨lw_p50, List.forall_mem_cons.mpr ⟨lw_p51, List.forall_mem_cons.mpr ⟨lw_p52, List.forall_mem_cons.mpr ⟨lw_p53, List.forall_mem_cons.mpr ⟨lw_p54, List.forall_mem_cons.mpr ⟨lw_p55, List.forall_mem_cons.mpr ⟨lw_p56, List.forall_mem_cons.mpr ⟨lw_p57, List.forall_mem_cons.mpr ⟨lw_p58, List.forall_mem_cons.mpr ⟨lw_p59, List.forall_mem_cons.mpr ⟨lw_p60, List.forall_mem_cons.mpr ⟨lw_p61, List.forall_mem_cons.mpr ⟨lw_p62, List.forall_mem_cons.mpr ⟨lw_p63, fun _ h => absurd h List.not_mem_nil⟩⟩⟩⟩⟩⟩⟩⟩⟩⟩⟩⟩⟩⟩⟩⟩
theorem lw_p64 : lw_okq (⟨"WhatIfSheetModel", "next", "()V"⟩, 76) := ⟨⟨by decide +kernel, by decide +kernel⟩, List.mem_of_getElem? (i := 1065) (by decide +kernel), List.mem_of_getElem? (i := 1493) (by decide +kernel), List.mem_of_getElem? (i := 1494) (by decide +kernel)⟩
theorem lw_p65 : lw_okq (⟨"WhatIfSheetModel", "byteAt", "(I)I"⟩, 76) := ⟨⟨by decide +kernel, by decide +kernel⟩, List.mem_of_getElem? (i := 1065) (by decide +kernel), List.mem_of_getElem? (i := 1497) (by decide +kernel), List.mem_of_getElem? (i := 1498) (by decide +kernel)⟩
theorem lw_p66 : lw_okq (⟨"WhatIfSheetModel", "word", "()I"⟩, 76) := ⟨⟨by decide +kernel, by decide +kernel⟩, List.mem_of_getElem? (i := 1065) (by decide +kernel), List.mem_of_getElem? (i := 1501) (by decide +kernel), List.mem_of_getElem? (i := 1502) (by decide +kernel)⟩
theorem lw_p67 : lw_okq (⟨"WhatIfSheetModel", "isWord", "(Ljava/lang/String;)Z"⟩, 76) := ⟨⟨by decide +kernel, by decide +kernel⟩, List.mem_of_getElem? (i := 1065) (by decide +kernel), List.mem_of_getElem? (i := 1506) (by decide +kernel), List.mem_of_getElem? (i := 1507) (by decide +kernel)⟩
theorem lw_p68 : lw_okq (⟨"WhatIfSheetModel", "isDigit", "()Z"⟩, 76) := ⟨⟨by decide +kernel, by decide +kernel⟩, List.mem_of_getElem? (i := 1065) (by decide +kernel), List.mem_of_getElem? (i := 1519) (by decide +kernel), List.mem_of_getElem? (i := 1520) (by decide +kernel)⟩
theorem lw_p69 : lw_okq (⟨"WhatIfSheetModel", "number", "()V"⟩, 76) := ⟨⟨by decide +kernel, by decide +kernel⟩, List.mem_of_getElem? (i := 1065) (by decide +kernel), List.mem_of_getElem? (i := 1523) (by decide +kernel), List.mem_of_getElem? (i := 1524) (by decide +kernel)⟩
theorem lw_p70 : lw_okq (⟨"WhatIfSheetModel", "all", "()V"⟩, 76) := ⟨⟨by decide +kernel, by decide +kernel⟩, List.mem_of_getElem? (i := 1065) (by decide +kernel), List.mem_of_getElem? (i := 1586) (by decide +kernel), List.mem_of_getElem? (i := 1587) (by decide +kernel)⟩
theorem lw_p71 : lw_okq (⟨"WhatIfSheetModel", "sum", "()V"⟩, 76) := ⟨⟨by decide +kernel, by decide +kernel⟩, List.mem_of_getElem? (i := 1065) (by decide +kernel), List.mem_of_getElem? (i := 1590) (by decide +kernel), List.mem_of_getElem? (i := 1591) (by decide +kernel)⟩
theorem lw_p72 : lw_okq (⟨"WhatIfSheetModel", "term", "()V"⟩, 76) := ⟨⟨by decide +kernel, by decide +kernel⟩, List.mem_of_getElem? (i := 1065) (by decide +kernel), List.mem_of_getElem? (i := 1594) (by decide +kernel), List.mem_of_getElem? (i := 1595) (by decide +kernel)⟩
theorem lw_p73 : lw_okq (⟨"WhatIfSheetModel", "one", "()V"⟩, 76) := ⟨⟨by decide +kernel, by decide +kernel⟩, List.mem_of_getElem? (i := 1065) (by decide +kernel), List.mem_of_getElem? (i := 1598) (by decide +kernel), List.mem_of_getElem? (i := 1599) (by decide +kernel)⟩
theorem lw_p74 : lw_okq (⟨"WhatIfSheetModel", "mark", "(I)V"⟩, 76) := ⟨⟨by decide +kernel, by decide +kernel⟩, List.mem_of_getElem? (i := 1065) (by decide +kernel), List.mem_of_getElem? (i := 1602) (by decide +kernel), List.mem_of_getElem? (i := 1603) (by decide +kernel)⟩
theorem lw_p75 : lw_okq (⟨"WhatIfSheetModel", "ofTable", "(I)V"⟩, 76) := ⟨⟨by decide +kernel, by decide +kernel⟩, List.mem_of_getElem? (i := 1065) (by decide +kernel), List.mem_of_getElem? (i := 1606) (by decide +kernel), List.mem_of_getElem? (i := 1607) (by decide +kernel)⟩
theorem lw_p76 : lw_okq (⟨"WhatIfSheetModel", "parts", "(I)V"⟩, 76) := ⟨⟨by decide +kernel, by decide +kernel⟩, List.mem_of_getElem? (i := 1065) (by decide +kernel), List.mem_of_getElem? (i := 1610) (by decide +kernel), List.mem_of_getElem? (i := 1611) (by decide +kernel)⟩
theorem lw_p77 : lw_okq (⟨"WhatIfSheetModel", "isSign", "(I)Z"⟩, 76) := ⟨⟨by decide +kernel, by decide +kernel⟩, List.mem_of_getElem? (i := 1065) (by decide +kernel), List.mem_of_getElem? (i := 1614) (by decide +kernel), List.mem_of_getElem? (i := 1615) (by decide +kernel)⟩
theorem lw_p78 : lw_okq (⟨"WhatIfSheetModel", "opens", "()Z"⟩, 76) := ⟨⟨by decide +kernel, by decide +kernel⟩, List.mem_of_getElem? (i := 1065) (by decide +kernel), List.mem_of_getElem? (i := 1618) (by decide +kernel), List.mem_of_getElem? (i := 1619) (by decide +kernel)⟩
theorem lw_p79 : lw_okq (⟨"WhatIfSheetModel", "need", "(I)V"⟩, 76) := ⟨⟨by decide +kernel, by decide +kernel⟩, List.mem_of_getElem? (i := 1065) (by decide +kernel), List.mem_of_getElem? (i := 1622) (by decide +kernel), List.mem_of_getElem? (i := 1623) (by decide +kernel)⟩
def lw_privs_5 : List (MethodName × Nat) := [(⟨"WhatIfSheetModel", "next", "()V"⟩, 76), (⟨"WhatIfSheetModel", "byteAt", "(I)I"⟩, 76), (⟨"WhatIfSheetModel", "word", "()I"⟩, 76), (⟨"WhatIfSheetModel", "isWord", "(Ljava/lang/String;)Z"⟩, 76), (⟨"WhatIfSheetModel", "isDigit", "()Z"⟩, 76), (⟨"WhatIfSheetModel", "number", "()V"⟩, 76), (⟨"WhatIfSheetModel", "all", "()V"⟩, 76), (⟨"WhatIfSheetModel", "sum", "()V"⟩, 76), (⟨"WhatIfSheetModel", "term", "()V"⟩, 76), (⟨"WhatIfSheetModel", "one", "()V"⟩, 76), (⟨"WhatIfSheetModel", "mark", "(I)V"⟩, 76), (⟨"WhatIfSheetModel", "ofTable", "(I)V"⟩, 76), (⟨"WhatIfSheetModel", "parts", "(I)V"⟩, 76), (⟨"WhatIfSheetModel", "isSign", "(I)Z"⟩, 76), (⟨"WhatIfSheetModel", "opens", "()Z"⟩, 76), (⟨"WhatIfSheetModel", "need", "(I)V"⟩, 76)]
theorem lw_r5 : ∀ q ∈ lw_privs_5, lw_okq q := List.forall_mem_cons.mpr ⟨lw_p64, List.forall_mem_cons.mpr ⟨lw_p65, List.forall_mem_cons.mpr ⟨lw_p66, List.forall_mem_cons.mpr ⟨lw_p67, List.forall_mem_cons.mpr ⟨lw_p68, List.forall_mem_cons.mpr ⟨lw_p69, List.forall_mem_cons.mpr ⟨lw_p70, List.forall_mem_cons.mpr ⟨lw_p71, List.forall_mem_cons.mpr ⟨lw_p72, List.forall_mem_cons.mpr ⟨lw_p73, List.forall_mem_cons.mpr ⟨lw_p74, List.forall_mem_cons.mpr ⟨lw_p75, List.forall_mem_cons.mpr ⟨lw_p76, List.forall_mem_cons.mpr ⟨lw_p77, List.forall_mem_cons.mpr ⟨lw_p78, List.forall_mem_cons.mpr ⟨lw_p79, fun _ h => absurd h List.not_mem_nil⟩⟩⟩⟩⟩⟩⟩⟩⟩⟩⟩⟩⟩⟩⟩⟩
theorem lw_p80 : lw_okq (⟨"WhatIfSheetModel", "isVaried", "(I)Z"⟩, 76) := ⟨⟨by decide +kernel, by decide +kernel⟩, List.mem_of_getElem? (i := 1065) (by decide +kernel), List.mem_of_getElem? (i := 1626) (by decide +kernel), List.mem_of_getElem? (i := 1627) (by decide +kernel)⟩
theorem lw_p81 : lw_okq (⟨"WhatIfSheetModel", "newNames", "()I"⟩, 76) := ⟨⟨by decide +kernel, by decide +kernel⟩, List.mem_of_getElem? (i := 1065) (by decide +kernel), List.mem_of_getElem? (i := 1630) (by decide +kernel), List.mem_of_getElem? (i := 1631) (by decide +kernel)⟩
theorem lw_p82 : lw_okq (⟨"WhatIfSheetModel", "comeTo", "(I)I"⟩, 76) := ⟨⟨by decide +kernel, by decide +kernel⟩, List.mem_of_getElem? (i := 1065) (by decide +kernel), List.mem_of_getElem? (i := 1634) (by decide +kernel), List.mem_of_getElem? (i := 1635) (by decide +kernel)⟩
theorem lw_p83 : lw_okq (⟨"WhatIfSheetModel", "isTooMuch", "()Z"⟩, 76) := ⟨⟨by decide +kernel, by decide +kernel⟩, List.mem_of_getElem? (i := 1065) (by decide +kernel), List.mem_of_getElem? (i := 1639) (by decide +kernel), List.mem_of_getElem? (i := 1640) (by decide +kernel)⟩
theorem lw_p84 : lw_okq (⟨"WhatIfSheetModel", "hasRoom", "(III)Z"⟩, 76) := ⟨⟨by decide +kernel, by decide +kernel⟩, List.mem_of_getElem? (i := 1065) (by decide +kernel), List.mem_of_getElem? (i := 1657) (by decide +kernel), List.mem_of_getElem? (i := 1658) (by decide +kernel)⟩
theorem lw_p85 : lw_okq (⟨"WhatIfSheetModel", "refusal", "(III)I"⟩, 76) := ⟨⟨by decide +kernel, by decide +kernel⟩, List.mem_of_getElem? (i := 1065) (by decide +kernel), List.mem_of_getElem? (i := 1676) (by decide +kernel), List.mem_of_getElem? (i := 1677) (by decide +kernel)⟩
theorem lw_p86 : lw_okq (⟨"WhatIfSheetModel", "tellCaseNow", "(III)V"⟩, 76) := ⟨⟨by decide +kernel, by decide +kernel⟩, List.mem_of_getElem? (i := 1065) (by decide +kernel), List.mem_of_getElem? (i := 1680) (by decide +kernel), List.mem_of_getElem? (i := 1681) (by decide +kernel)⟩
theorem lw_p87 : lw_okq (⟨"WhatIfSheetModel", "caseOf", "(IZ)I"⟩, 76) := ⟨⟨by decide +kernel, by decide +kernel⟩, List.mem_of_getElem? (i := 1065) (by decide +kernel), List.mem_of_getElem? (i := 1696) (by decide +kernel), List.mem_of_getElem? (i := 1697) (by decide +kernel)⟩
theorem lw_p88 : lw_okq (⟨"WhatIfSheetModel", "slice", "(I)I"⟩, 76) := ⟨⟨by decide +kernel, by decide +kernel⟩, List.mem_of_getElem? (i := 1065) (by decide +kernel), List.mem_of_getElem? (i := 1700) (by decide +kernel), List.mem_of_getElem? (i := 1701) (by decide +kernel)⟩
theorem lw_p89 : lw_okq (⟨"WhatIfSheetModel", "unlikeOnes", "(II)I"⟩, 76) := ⟨⟨by decide +kernel, by decide +kernel⟩, List.mem_of_getElem? (i := 1065) (by decide +kernel), List.mem_of_getElem? (i := 1704) (by decide +kernel), List.mem_of_getElem? (i := 1705) (by decide +kernel)⟩
theorem lw_p90 : lw_okq (⟨"WhatIfSheetModel", "toldLeast", "(I)I"⟩, 76) := ⟨⟨by decide +kernel, by decide +kernel⟩, List.mem_of_getElem? (i := 1065) (by decide +kernel), List.mem_of_getElem? (i := 1708) (by decide +kernel), List.mem_of_getElem? (i := 1709) (by decide +kernel)⟩
theorem lw_p91 : lw_okq (⟨"WhatIfSheetModel", "seeks", "(IIDDD)Z"⟩, 76) := ⟨⟨by decide +kernel, by decide +kernel⟩, List.mem_of_getElem? (i := 1065) (by decide +kernel), List.mem_of_getElem? (i := 1719) (by decide +kernel), List.mem_of_getElem? (i := 1720) (by decide +kernel)⟩
theorem lw_p92 : lw_okq (⟨"WhatIfSheetModel", "f", "(IID)D"⟩, 76) := ⟨⟨by decide +kernel, by decide +kernel⟩, List.mem_of_getElem? (i := 1065) (by decide +kernel), List.mem_of_getElem? (i := 1723) (by decide +kernel), List.mem_of_getElem? (i := 1724) (by decide +kernel)⟩
theorem lw_p93 : lw_okq (⟨"WhatIfSheetModel", "finds", "(DD)V"⟩, 76) := ⟨⟨by decide +kernel, by decide +kernel⟩, List.mem_of_getElem? (i := 1065) (by decide +kernel), List.mem_of_getElem? (i := 1727) (by decide +kernel), List.mem_of_getElem? (i := 1728) (by decide +kernel)⟩
theorem lw_p94 : lw_okq (⟨"WhatIfSheetModel", "isSoByLot", "(IIID)Z"⟩, 76) := ⟨⟨by decide +kernel, by decide +kernel⟩, List.mem_of_getElem? (i := 1065) (by decide +kernel), List.mem_of_getElem? (i := 1749) (by decide +kernel), List.mem_of_getElem? (i := 1750) (by decide +kernel)⟩
theorem lw_p95 : lw_okq (⟨"WhatIfSheetModel", "otherwise", "(II)I"⟩, 76) := ⟨⟨by decide +kernel, by decide +kernel⟩, List.mem_of_getElem? (i := 1065) (by decide +kernel), List.mem_of_getElem? (i := 1765) (by decide +kernel), List.mem_of_getElem? (i := 1766) (by decide +kernel)⟩
def lw_privs_6 : List (MethodName × Nat) := [(⟨"WhatIfSheetModel", "isVaried", "(I)Z"⟩, 76), (⟨"WhatIfSheetModel", "newNames", "()I"⟩, 76), (⟨"WhatIfSheetModel", "comeTo", "(I)I"⟩, 76), (⟨"WhatIfSheetModel", "isTooMuch", "()Z"⟩, 76), (⟨"WhatIfSheetModel", "hasRoom", "(III)Z"⟩, 76), (⟨"WhatIfSheetModel", "refusal", "(III)I"⟩, 76), (⟨"WhatIfSheetModel", "tellCaseNow", "(III)V"⟩, 76), (⟨"WhatIfSheetModel", "caseOf", "(IZ)I"⟩, 76), (⟨"WhatIfSheetModel", "slice", "(I)I"⟩, 76), (⟨"WhatIfSheetModel", "unlikeOnes", "(II)I"⟩, 76), (⟨"WhatIfSheetModel", "toldLeast", "(I)I"⟩, 76), (⟨"WhatIfSheetModel", "seeks", "(IIDDD)Z"⟩, 76), (⟨"WhatIfSheetModel", "f", "(IID)D"⟩, 76), (⟨"WhatIfSheetModel", "finds", "(DD)V"⟩, 76), (⟨"WhatIfSheetModel", "isSoByLot", "(IIID)Z"⟩, 76), (⟨"WhatIfSheetModel", "otherwise", "(II)I"⟩, 76)]
theorem lw_r6 : ∀ q ∈ lw_privs_6, lw_okq q := List.forall_mem_cons.mpr ⟨lw_p80, List.forall_mem_cons.mpr ⟨lw_p81, List.forall_mem_cons.mpr ⟨lw_p82, List.forall_mem_cons.mpr ⟨lw_p83, List.forall_mem_cons.mpr ⟨lw_p84, List.forall_mem_cons.mpr ⟨lw_p85, List.forall_mem_cons.mpr ⟨lw_p86, List.forall_mem_cons.mpr ⟨lw_p87, List.forall_mem_cons.mpr ⟨lw_p88, List.forall_mem_cons.mpr ⟨lw_p89, List.forall_mem_cons.mpr ⟨lw_p90, List.forall_mem_cons.mpr ⟨lw_p91, List.forall_mem_cons.mpr ⟨lw_p92, List.forall_mem_cons.mpr ⟨lw_p93, List.forall_mem_cons.mpr ⟨lw_p94, List.forall_mem_cons.mpr ⟨lw_p95, fun _ h => absurd h List.not_mem_nil⟩⟩⟩⟩⟩⟩⟩⟩⟩⟩⟩⟩⟩⟩⟩⟩
theorem lw_p96 : lw_okq (⟨"WhatIfSheetModel", "kindsBy", "(III)I"⟩, 76) := ⟨⟨by decide +kernel, by decide +kernel⟩, List.mem_of_getElem? (i := 1065) (by decide +kernel), List.mem_of_getElem? (i := 1769) (by decide +kernel), List.mem_of_getElem? (i := 1770) (by decide +kernel)⟩
theorem lw_p97 : lw_okq (⟨"WhatIfSheetModel", "numbersBy", "(IIIZ)I"⟩, 76) := ⟨⟨by decide +kernel, by decide +kernel⟩, List.mem_of_getElem? (i := 1065) (by decide +kernel), List.mem_of_getElem? (i := 1773) (by decide +kernel), List.mem_of_getElem? (i := 1774) (by decide +kernel)⟩
theorem lw_p98 : lw_okq (⟨"WhatIfSheetModel", "formulas", "()I"⟩, 76) := ⟨⟨by decide +kernel, by decide +kernel⟩, List.mem_of_getElem? (i := 1065) (by decide +kernel), List.mem_of_getElem? (i := 1781) (by decide +kernel), List.mem_of_getElem? (i := 1782) (by decide +kernel)⟩
theorem lw_p99 : lw_okq (⟨"WhatIfSheetModel", "itemRefusal", "(II)I"⟩, 76) := ⟨⟨by decide +kernel, by decide +kernel⟩, List.mem_of_getElem? (i := 1065) (by decide +kernel), List.mem_of_getElem? (i := 1801) (by decide +kernel), List.mem_of_getElem? (i := 1802) (by decide +kernel)⟩
def lw_privs_7 : List (MethodName × Nat) := [(⟨"WhatIfSheetModel", "kindsBy", "(III)I"⟩, 76), (⟨"WhatIfSheetModel", "numbersBy", "(IIIZ)I"⟩, 76), (⟨"WhatIfSheetModel", "formulas", "()I"⟩, 76), (⟨"WhatIfSheetModel", "itemRefusal", "(II)I"⟩, 76)]
theorem lw_r7 : ∀ q ∈ lw_privs_7, lw_okq q := List.forall_mem_cons.mpr ⟨lw_p96, List.forall_mem_cons.mpr ⟨lw_p97, List.forall_mem_cons.mpr ⟨lw_p98, List.forall_mem_cons.mpr ⟨lw_p99, fun _ h => absurd h List.not_mem_nil⟩⟩⟩⟩
def lw_privs : List (MethodName × Nat) := lw_privs_1 ++ (lw_privs_2 ++ (lw_privs_3 ++ (lw_privs_4 ++ (lw_privs_5 ++ (lw_privs_6 ++ (lw_privs_7))))))
def lw_tbl : List Cond := k2_sels lw_privs ++ tables_1
theorem lw_privs_ok : ∀ q ∈ lw_privs, lw_okq q := by
  show ∀ q ∈ lw_privs_1 ++ (lw_privs_2 ++ (lw_privs_3 ++ (lw_privs_4 ++ (lw_privs_5 ++ (lw_privs_6 ++ (lw_privs_7)))))), lw_okq q
  exact List.forall_mem_append.mpr ⟨lw_r1, List.forall_mem_append.mpr ⟨lw_r2, List.forall_mem_append.mpr ⟨lw_r3, List.forall_mem_append.mpr ⟨lw_r4, List.forall_mem_append.mpr ⟨lw_r5, List.forall_mem_append.mpr ⟨lw_r6, lw_r7⟩⟩⟩⟩⟩⟩
/-- the streams that the claim lets the run draw from -/
abbrev lw_cs : List Choice := [Jvm.Choice.named "NaN.bits", Jvm.Choice.named "NaN.copy"]
theorem lw_bits : nanBits ∈ lw_cs := by first | decide | exact List.mem_cons_self | simp [lw_cs, nanBits]
-- ===== end of PART A; then your names; then what follows =====
/-! ===== BEGIN words of one list among another's, by their places ===== -/
theorem goodIn_r {big : List Cond} (ws : List Cond) (ps : List Nat) (hp : ws = ps.filterMap (fun i => big[i]?)) (h : ws.all goodWord = true) : GoodIn big ws := by
  intro w hw
  have h1 := List.all_eq_true.mp h w hw
  rw [hp] at hw
  obtain ⟨i, -, hi⟩ := List.mem_filterMap.mp hw
  have hm : w ∈ big := by first | exact List.mem_of_getElem? hi | exact List.getElem?_mem hi
  exact ⟨hm, good_of_word h1⟩
theorem goodIn_app {big a b : List Cond} (ha : GoodIn big a) (hb : GoodIn big b) : GoodIn big (a ++ b) := fun w h => (List.mem_append.mp h).elim (ha w) (hb w)
theorem goodIn_ca {big a b : List Cond} {c : Cond} (ha : GoodIn big (c :: a)) (hb : GoodIn big b) : GoodIn big (c :: (a ++ b)) := fun w h => (List.mem_cons.mp h).elim (fun e => ha w (List.mem_cons.mpr (Or.inl e))) (fun h => (List.mem_append.mp h).elim (fun h => ha w (List.mem_cons.mpr (Or.inr h))) (hb w))
theorem goodIn_sub {big ws : List Cond} (hm : ∀ w ∈ ws, w ∈ big) (h : ws.all goodWord = true) : GoodIn big ws := fun w hw => ⟨hm w hw, good_of_word (List.all_eq_true.mp h w hw)⟩
/-! ===== END ===== -/
/-! ===== BEGIN printed: names, fields, word lists, decode rows ===== -/
def RX0 : String := "WhatIfSheet$Board"
def TX0 : u_T := fun k => match k with
  | 0 => ("WhatIfSheet$Board", "kinds", "[I", true)
  | 1 => ("WhatIfSheet$Board", "numbers", "[D", true)
  | 2 => ("WhatIfSheet$Board", "filled", "[Z", true)
  | 3 => ("WhatIfSheet$Board", "formulas", "[LWhatIfSheet$Formula;", true)
  | _ => ("WhatIfSheet$Board", "grids", "[LWhatIfSheet$Grid;", true)
def tyX0 : Nat → FieldType := fun k => match k with
  | 0 => .array .int
  | 1 => .array .double
  | 2 => .array .boolean
  | 3 => .array (.object "WhatIfSheet$Formula")
  | _ => .array (.object "WhatIfSheet$Grid")
abbrev wsX00 : List Cond := u_ws RX0 TX0 5
theorem nmX0 : ∀ a, a < 5 → ∀ b, b < 5 → a ≠ b → (TX0 a).2.1 ≠ (TX0 b).2.1 := by decide +kernel
theorem tyX0_ok : ∀ k, k < 5 → parseFieldDescriptor (TX0 k).2.2.1 = some (tyX0 k) := by decide +kernel
abbrev cX0_init : ByteArray := prog_2_method_1_code
def yX0_init : MethodName := ⟨RX0, "<init>", "()V"⟩
abbrev cX0_become : ByteArray := prog_2_method_2_code
def yX0_become : MethodName := ⟨RX0, "become", "(LWhatIfSheet$Board;)V"⟩
abbrev cX0_hasFormula : ByteArray := prog_2_method_3_code
def yX0_hasFormula : MethodName := ⟨RX0, "hasFormula", "(I)Z"⟩
abbrev cX0_isVaried : ByteArray := prog_2_method_4_code
def yX0_isVaried : MethodName := ⟨RX0, "isVaried", "(I)Z"⟩
abbrev cX0_formulaCount : ByteArray := prog_2_method_5_code
def yX0_formulaCount : MethodName := ⟨RX0, "formulaCount", "()I"⟩
abbrev cX0_numberCount : ByteArray := prog_2_method_6_code
def yX0_numberCount : MethodName := ⟨RX0, "numberCount", "()I"⟩
abbrev cX0_laidCount : ByteArray := prog_2_method_7_code
def yX0_laidCount : MethodName := ⟨RX0, "laidCount", "()I"⟩
abbrev cX0_unlikeOnes : ByteArray := prog_2_method_8_code
def yX0_unlikeOnes : MethodName := ⟨RX0, "unlikeOnes", "(I)I"⟩
abbrev cX0_unlikeOthers : ByteArray := prog_2_method_9_code
def yX0_unlikeOthers : MethodName := ⟨RX0, "unlikeOthers", "(I)I"⟩
abbrev cX0_unlike : ByteArray := prog_2_method_10_code
def yX0_unlike : MethodName := ⟨RX0, "unlike", "([DII)I"⟩
def RX1 : String := "WhatIfSheet$Bracket"
def TX1 : u_T := fun k => match k with
  | 0 => ("WhatIfSheet$Bracket", "low", "D", false)
  | 1 => ("WhatIfSheet$Bracket", "high", "D", false)
  | 2 => ("WhatIfSheet$Bracket", "want", "D", false)
  | 3 => ("WhatIfSheet$Bracket", "atLow", "D", false)
  | 4 => ("WhatIfSheet$Bracket", "atHigh", "D", false)
  | 5 => ("WhatIfSheet$Bracket", "told", "I", false)
  | 6 => ("WhatIfSheet$Bracket", "ended", "Z", false)
  | 7 => ("WhatIfSheet$Bracket", "found", "D", false)
  | _ => ("WhatIfSheet$Bracket", "there", "D", false)
def tyX1 : Nat → FieldType := fun k => match k with
  | 0 => .double
  | 1 => .double
  | 2 => .double
  | 3 => .double
  | 4 => .double
  | 5 => .int
  | 6 => .boolean
  | 7 => .double
  | _ => .double
abbrev wsX10 : List Cond := u_ws RX1 TX1 9
theorem nmX1 : ∀ a, a < 9 → ∀ b, b < 9 → a ≠ b → (TX1 a).2.1 ≠ (TX1 b).2.1 := by decide +kernel
theorem tyX1_ok : ∀ k, k < 9 → parseFieldDescriptor (TX1 k).2.2.1 = some (tyX1 k) := by decide +kernel
abbrev cX1_init : ByteArray := prog_3_method_1_code
def yX1_init : MethodName := ⟨RX1, "<init>", "()V"⟩
abbrev cX1_open : ByteArray := prog_3_method_2_code
def yX1_open : MethodName := ⟨RX1, "open", "(DDD)V"⟩
abbrev cX1_end : ByteArray := prog_3_method_3_code
def yX1_end : MethodName := ⟨RX1, "end", "(DD)V"⟩
abbrev cX1_endsAtOnce : ByteArray := prog_3_method_4_code
def yX1_endsAtOnce : MethodName := ⟨RX1, "endsAtOnce", "()Z"⟩
abbrev cX1_isBetween : ByteArray := prog_3_method_5_code
def yX1_isBetween : MethodName := ⟨RX1, "isBetween", "()Z"⟩
abbrev cX1_isInside : ByteArray := prog_3_method_6_code
def yX1_isInside : MethodName := ⟨RX1, "isInside", "(D)Z"⟩
abbrev cX1_middle : ByteArray := prog_3_method_7_code
def yX1_middle : MethodName := ⟨RX1, "middle", "(Z)D"⟩
abbrev cX1_narrow : ByteArray := prog_3_method_8_code
def yX1_narrow : MethodName := ⟨RX1, "narrow", "(DD)Z"⟩
abbrev cX1_endNearer : ByteArray := prog_3_method_9_code
def yX1_endNearer : MethodName := ⟨RX1, "endNearer", "()V"⟩
def RX2 : String := "WhatIfSheet$Formula"
def TX2 : u_T := fun k => match k with
  | 0 => ("WhatIfSheet$Formula", "steps", "[I", true)
  | 1 => ("WhatIfSheet$Formula", "size", "I", false)
  | 2 => ("WhatIfSheet$Formula", "named", "I", false)
  | _ => ("WhatIfSheet$Formula", "times", "[I", true)
def tyX2 : Nat → FieldType := fun k => match k with
  | 0 => .array .int
  | 1 => .int
  | 2 => .int
  | _ => .array .int
abbrev wsX20 : List Cond := u_ws RX2 TX2 4
theorem nmX2 : ∀ a, a < 4 → ∀ b, b < 4 → a ≠ b → (TX2 a).2.1 ≠ (TX2 b).2.1 := by decide +kernel
theorem tyX2_ok : ∀ k, k < 4 → parseFieldDescriptor (TX2 k).2.2.1 = some (tyX2 k) := by decide +kernel
abbrev cX2_init : ByteArray := prog_4_method_1_code
def yX2_init : MethodName := ⟨RX2, "<init>", "()V"⟩
abbrev cX2_forget : ByteArray := prog_4_method_2_code
def yX2_forget : MethodName := ⟨RX2, "forget", "()V"⟩
abbrev cX2_become : ByteArray := prog_4_method_3_code
def yX2_become : MethodName := ⟨RX2, "become", "(LWhatIfSheet$Formula;)V"⟩
abbrev cX2_add : ByteArray := prog_4_method_4_code
def yX2_add : MethodName := ⟨RX2, "add", "(II)V"⟩
abbrev cX2_nameCell : ByteArray := prog_4_method_5_code
def yX2_nameCell : MethodName := ⟨RX2, "nameCell", "(I)V"⟩
abbrev cX2_nameTable : ByteArray := prog_4_method_6_code
def yX2_nameTable : MethodName := ⟨RX2, "nameTable", "(I)V"⟩
def RX3 : String := "WhatIfSheet$Grid"
def TX3 : u_T := fun k => match k with
  | 0 => ("WhatIfSheet$Grid", "laid", "Z", false)
  | 1 => ("WhatIfSheet$Grid", "output", "I", false)
  | 2 => ("WhatIfSheet$Grid", "one", "I", false)
  | 3 => ("WhatIfSheet$Grid", "other", "I", false)
  | 4 => ("WhatIfSheet$Grid", "oneCount", "I", false)
  | 5 => ("WhatIfSheet$Grid", "otherCount", "I", false)
  | 6 => ("WhatIfSheet$Grid", "ones", "[D", true)
  | _ => ("WhatIfSheet$Grid", "others", "[D", true)
def tyX3 : Nat → FieldType := fun k => match k with
  | 0 => .boolean
  | 1 => .int
  | 2 => .int
  | 3 => .int
  | 4 => .int
  | 5 => .int
  | 6 => .array .double
  | _ => .array .double
abbrev wsX30 : List Cond := u_ws RX3 TX3 8
theorem nmX3 : ∀ a, a < 8 → ∀ b, b < 8 → a ≠ b → (TX3 a).2.1 ≠ (TX3 b).2.1 := by decide +kernel
theorem tyX3_ok : ∀ k, k < 8 → parseFieldDescriptor (TX3 k).2.2.1 = some (tyX3 k) := by decide +kernel
abbrev cX3_init : ByteArray := prog_5_method_1_code
def yX3_init : MethodName := ⟨RX3, "<init>", "()V"⟩
abbrev cX3_lay : ByteArray := prog_5_method_2_code
def yX3_lay : MethodName := ⟨RX3, "lay", "(III)V"⟩
abbrev cX3_become : ByteArray := prog_5_method_3_code
def yX3_become : MethodName := ⟨RX3, "become", "(LWhatIfSheet$Grid;)V"⟩
abbrev cX3_vary : ByteArray := prog_5_method_4_code
def yX3_vary : MethodName := ⟨RX3, "vary", "(IID)V"⟩
abbrev cX3_cut : ByteArray := prog_5_method_5_code
def yX3_cut : MethodName := ⟨RX3, "cut", "(II)V"⟩
abbrev cX3_columns : ByteArray := prog_5_method_6_code
def yX3_columns : MethodName := ⟨RX3, "columns", "()I"⟩
abbrev cX3_cases : ByteArray := prog_5_method_7_code
def yX3_cases : MethodName := ⟨RX3, "cases", "()I"⟩
abbrev cX3_placeOf : ByteArray := prog_5_method_8_code
def yX3_placeOf : MethodName := ⟨RX3, "placeOf", "(I)I"⟩
abbrev cX3_varies : ByteArray := prog_5_method_9_code
def yX3_varies : MethodName := ⟨RX3, "varies", "(I)Z"⟩
abbrev cX3_varied : ByteArray := prog_5_method_10_code
def yX3_varied : MethodName := ⟨RX3, "varied", "()I"⟩
def RX4 : String := "WhatIfSheet$Names"
def TX4 : u_T := fun k => match k with
  | 0 => ("WhatIfSheet$Names", "order", "[I", true)
  | 1 => ("WhatIfSheet$Names", "reached", "[I", true)
  | 2 => ("WhatIfSheet$Names", "reads", "[I", true)
  | 3 => ("WhatIfSheet$Names", "burdens", "[I", true)
  | 4 => ("WhatIfSheet$Names", "shares", "[I", true)
  | _ => ("WhatIfSheet$Names", "least", "[I", true)
def tyX4 : Nat → FieldType := fun k => match k with
  | 0 => .array .int
  | 1 => .array .int
  | 2 => .array .int
  | 3 => .array .int
  | 4 => .array .int
  | _ => .array .int
abbrev wsX40 : List Cond := u_ws RX4 TX4 6
theorem nmX4 : ∀ a, a < 6 → ∀ b, b < 6 → a ≠ b → (TX4 a).2.1 ≠ (TX4 b).2.1 := by decide +kernel
theorem tyX4_ok : ∀ k, k < 6 → parseFieldDescriptor (TX4 k).2.2.1 = some (tyX4 k) := by decide +kernel
abbrev cX4_init : ByteArray := prog_6_method_1_code
def yX4_init : MethodName := ⟨RX4, "<init>", "()V"⟩
abbrev cX4_namedBy : ByteArray := prog_6_method_2_code
def yX4_namedBy : MethodName := ⟨RX4, "namedBy", "(LWhatIfSheet$Board;I)I"⟩
abbrev cX4_allNamed : ByteArray := prog_6_method_3_code
def yX4_allNamed : MethodName := ⟨RX4, "allNamed", "(LWhatIfSheet$Board;I)I"⟩
abbrev cX4_learn : ByteArray := prog_6_method_4_code
def yX4_learn : MethodName := ⟨RX4, "learn", "(LWhatIfSheet$Board;)V"⟩
abbrev cX4_arrange : ByteArray := prog_6_method_5_code
def yX4_arrange : MethodName := ⟨RX4, "arrange", "(LWhatIfSheet$Board;)V"⟩
abbrev cX4_learnInput : ByteArray := prog_6_method_6_code
def yX4_learnInput : MethodName := ⟨RX4, "learnInput", "(I)V"⟩
abbrev cX4_learnFormula : ByteArray := prog_6_method_7_code
def yX4_learnFormula : MethodName := ⟨RX4, "learnFormula", "(LWhatIfSheet$Board;I)V"⟩
abbrev cX4_learnTable : ByteArray := prog_6_method_8_code
def yX4_learnTable : MethodName := ⟨RX4, "learnTable", "(LWhatIfSheet$Board;I)V"⟩
abbrev cX4_bounded : ByteArray := prog_6_method_9_code
def yX4_bounded : MethodName := ⟨RX4, "bounded", "(J)I"⟩
abbrev cX4_areTooHeavy : ByteArray := prog_6_method_10_code
def yX4_areTooHeavy : MethodName := ⟨RX4, "areTooHeavy", "()Z"⟩
abbrev cX4_slice : ByteArray := prog_6_method_11_code
def yX4_slice : MethodName := ⟨RX4, "slice", "(LWhatIfSheet$Board;I)I"⟩
abbrev cX4_leastTold : ByteArray := prog_6_method_12_code
def yX4_leastTold : MethodName := ⟨RX4, "leastTold", "(LWhatIfSheet$Board;I)I"⟩
abbrev cX4_learnLeast : ByteArray := prog_6_method_13_code
def yX4_learnLeast : MethodName := ⟨RX4, "learnLeast", "(LWhatIfSheet$Board;I)V"⟩
def RX5 : String := "WhatIfSheet$Reader"
def TX5 : u_T := fun k => match k with
  | 0 => ("WhatIfSheet$Reader", "tape", "[I", true)
  | 1 => ("WhatIfSheet$Reader", "size", "I", false)
  | 2 => ("WhatIfSheet$Reader", "made", "LWhatIfSheet$Formula;", false)
  | 3 => ("WhatIfSheet$Reader", "begin", "I", false)
  | 4 => ("WhatIfSheet$Reader", "behind", "I", false)
  | 5 => ("WhatIfSheet$Reader", "token", "I", false)
  | 6 => ("WhatIfSheet$Reader", "worth", "I", false)
  | _ => ("WhatIfSheet$Reader", "fault", "I", false)
def tyX5 : Nat → FieldType := fun k => match k with
  | 0 => .array .int
  | 1 => .int
  | 2 => .object "WhatIfSheet$Formula"
  | 3 => .int
  | 4 => .int
  | 5 => .int
  | 6 => .int
  | _ => .int
abbrev wsX50 : List Cond := u_ws RX5 TX5 8
theorem nmX5 : ∀ a, a < 8 → ∀ b, b < 8 → a ≠ b → (TX5 a).2.1 ≠ (TX5 b).2.1 := by decide +kernel
theorem tyX5_ok : ∀ k, k < 8 → parseFieldDescriptor (TX5 k).2.2.1 = some (tyX5 k) := by decide +kernel
abbrev cX5_init : ByteArray := prog_7_method_1_code
def yX5_init : MethodName := ⟨RX5, "<init>", "()V"⟩
abbrev cX5_take : ByteArray := prog_7_method_2_code
def yX5_take : MethodName := ⟨RX5, "take", "(I)V"⟩
abbrev cX5_read : ByteArray := prog_7_method_3_code
def yX5_read : MethodName := ⟨RX5, "read", "()I"⟩
abbrev cX5_stop : ByteArray := prog_7_method_4_code
def yX5_stop : MethodName := ⟨RX5, "stop", "()V"⟩
abbrev cX5_readWhole : ByteArray := prog_7_method_5_code
def yX5_readWhole : MethodName := ⟨RX5, "readWhole", "(I)V"⟩
abbrev cX5_readSum : ByteArray := prog_7_method_6_code
def yX5_readSum : MethodName := ⟨RX5, "readSum", "(I)V"⟩
abbrev cX5_readTerm : ByteArray := prog_7_method_7_code
def yX5_readTerm : MethodName := ⟨RX5, "readTerm", "(I)V"⟩
abbrev cX5_isByTerm : ByteArray := prog_7_method_8_code
def yX5_isByTerm : MethodName := ⟨RX5, "isByTerm", "()Z"⟩
abbrev cX5_readOne : ByteArray := prog_7_method_9_code
def yX5_readOne : MethodName := ⟨RX5, "readOne", "(I)V"⟩
abbrev cX5_readNegated : ByteArray := prog_7_method_10_code
def yX5_readNegated : MethodName := ⟨RX5, "readNegated", "(I)V"⟩
abbrev cX5_readCall : ByteArray := prog_7_method_11_code
def yX5_readCall : MethodName := ⟨RX5, "readCall", "(I)V"⟩
abbrev cX5_readParts : ByteArray := prog_7_method_12_code
def yX5_readParts : MethodName := ⟨RX5, "readParts", "(II)V"⟩
abbrev cX5_readQuestion : ByteArray := prog_7_method_13_code
def yX5_readQuestion : MethodName := ⟨RX5, "readQuestion", "()V"⟩
abbrev cX5_look : ByteArray := prog_7_method_14_code
def yX5_look : MethodName := ⟨RX5, "look", "()V"⟩
abbrev cX5_isBlank : ByteArray := prog_7_method_15_code
def yX5_isBlank : MethodName := ⟨RX5, "isBlank", "(I)Z"⟩
abbrev cX5_isLetter : ByteArray := prog_7_method_16_code
def yX5_isLetter : MethodName := ⟨RX5, "isLetter", "(I)Z"⟩
abbrev cX5_isDigit : ByteArray := prog_7_method_17_code
def yX5_isDigit : MethodName := ⟨RX5, "isDigit", "(I)Z"⟩
abbrev cX5_isSign : ByteArray := prog_7_method_18_code
def yX5_isSign : MethodName := ⟨RX5, "isSign", "(I)Z"⟩
abbrev cX5_lookAtNumber : ByteArray := prog_7_method_19_code
def yX5_lookAtNumber : MethodName := ⟨RX5, "lookAtNumber", "()V"⟩
abbrev cX5_lookAtWord : ByteArray := prog_7_method_20_code
def yX5_lookAtWord : MethodName := ⟨RX5, "lookAtWord", "()V"⟩
abbrev cX5_isWord : ByteArray := prog_7_method_21_code
def yX5_isWord : MethodName := ⟨RX5, "isWord", "(Ljava/lang/String;)Z"⟩
def RX6 : String := "WhatIfSheet$Row"
def TX6 : u_T := fun k => match k with
  | 0 => ("WhatIfSheet$Row", "sort", "I", false)
  | 1 => ("WhatIfSheet$Row", "size", "I", false)
  | 2 => ("WhatIfSheet$Row", "items", "[D", true)
  | _ => ("WhatIfSheet$Row", "failed", "[Z", true)
def tyX6 : Nat → FieldType := fun k => match k with
  | 0 => .int
  | 1 => .int
  | 2 => .array .double
  | _ => .array .boolean
abbrev wsX60 : List Cond := u_ws RX6 TX6 4
theorem nmX6 : ∀ a, a < 4 → ∀ b, b < 4 → a ≠ b → (TX6 a).2.1 ≠ (TX6 b).2.1 := by decide +kernel
theorem tyX6_ok : ∀ k, k < 4 → parseFieldDescriptor (TX6 k).2.2.1 = some (tyX6 k) := by decide +kernel
abbrev cX6_init : ByteArray := prog_8_method_1_code
def yX6_init : MethodName := ⟨RX6, "<init>", "()V"⟩
abbrev cX6_renew : ByteArray := prog_8_method_2_code
def yX6_renew : MethodName := ⟨RX6, "renew", "(II)V"⟩
abbrev cX6_become : ByteArray := prog_8_method_3_code
def yX6_become : MethodName := ⟨RX6, "become", "(LWhatIfSheet$Tally;)V"⟩
abbrev cX6_holds : ByteArray := prog_8_method_4_code
def yX6_holds : MethodName := ⟨RX6, "holds", "(II)Z"⟩
abbrev cX6_hasFailed : ByteArray := prog_8_method_5_code
def yX6_hasFailed : MethodName := ⟨RX6, "hasFailed", "(II)Z"⟩
abbrev cX6_firstOtherwise : ByteArray := prog_8_method_6_code
def yX6_firstOtherwise : MethodName := ⟨RX6, "firstOtherwise", "(LWhatIfSheet$Tally;)I"⟩
def RX7 : String := "WhatIfSheet$Tally"
def TX7 : u_T := fun k => match k with
  | 0 => ("WhatIfSheet$Tally", "count", "I", false)
  | 1 => ("WhatIfSheet$Tally", "values", "[D", true)
  | 2 => ("WhatIfSheet$Tally", "wrongs", "[I", true)
  | 3 => ("WhatIfSheet$Tally", "fails", "I", false)
  | 4 => ("WhatIfSheet$Tally", "sum", "D", false)
  | 5 => ("WhatIfSheet$Tally", "tooFar", "Z", false)
  | 6 => ("WhatIfSheet$Tally", "least", "D", false)
  | 7 => ("WhatIfSheet$Tally", "most", "D", false)
  | 8 => ("WhatIfSheet$Tally", "leastCase", "I", false)
  | _ => ("WhatIfSheet$Tally", "mostCase", "I", false)
def tyX7 : Nat → FieldType := fun k => match k with
  | 0 => .int
  | 1 => .array .double
  | 2 => .array .int
  | 3 => .int
  | 4 => .double
  | 5 => .boolean
  | 6 => .double
  | 7 => .double
  | 8 => .int
  | _ => .int
abbrev wsX70 : List Cond := u_ws RX7 TX7 10
theorem nmX7 : ∀ a, a < 10 → ∀ b, b < 10 → a ≠ b → (TX7 a).2.1 ≠ (TX7 b).2.1 := by decide +kernel
theorem tyX7_ok : ∀ k, k < 10 → parseFieldDescriptor (TX7 k).2.2.1 = some (tyX7 k) := by decide +kernel
abbrev cX7_init : ByteArray := prog_9_method_1_code
def yX7_init : MethodName := ⟨RX7, "<init>", "()V"⟩
abbrev cX7_restart : ByteArray := prog_9_method_2_code
def yX7_restart : MethodName := ⟨RX7, "restart", "()V"⟩
abbrev cX7_take : ByteArray := prog_9_method_3_code
def yX7_take : MethodName := ⟨RX7, "take", "(DI)V"⟩
abbrev cX7_takeNumber : ByteArray := prog_9_method_4_code
def yX7_takeNumber : MethodName := ⟨RX7, "takeNumber", "(D)V"⟩
abbrev cX7_errorIn : ByteArray := prog_9_method_5_code
def yX7_errorIn : MethodName := ⟨RX7, "errorIn", "(I)I"⟩
abbrev cX7_numberOf : ByteArray := prog_9_method_6_code
def yX7_numberOf : MethodName := ⟨RX7, "numberOf", "(I)D"⟩
def RX8 : String := "WhatIfSheet$Teller"
def TX8 : u_T := fun k => match k with
  | 0 => ("WhatIfSheet$Teller", "board", "LWhatIfSheet$Board;", true)
  | 1 => ("WhatIfSheet$Teller", "names", "LWhatIfSheet$Names;", true)
  | 2 => ("WhatIfSheet$Teller", "tallies", "[LWhatIfSheet$Tally;", true)
  | 3 => ("WhatIfSheet$Teller", "numbers", "[[D", true)
  | 4 => ("WhatIfSheet$Teller", "wrongs", "[[I", true)
  | 5 => ("WhatIfSheet$Teller", "stack", "[D", true)
  | 6 => ("WhatIfSheet$Teller", "stackWrongs", "[I", true)
  | _ => ("WhatIfSheet$Teller", "top", "I", false)
def tyX8 : Nat → FieldType := fun k => match k with
  | 0 => .object "WhatIfSheet$Board"
  | 1 => .object "WhatIfSheet$Names"
  | 2 => .array (.object "WhatIfSheet$Tally")
  | 3 => .array (.array .double)
  | 4 => .array (.array .int)
  | 5 => .array .double
  | 6 => .array .int
  | _ => .int
abbrev wsX80 : List Cond := u_ws RX8 TX8 8
theorem nmX8 : ∀ a, a < 8 → ∀ b, b < 8 → a ≠ b → (TX8 a).2.1 ≠ (TX8 b).2.1 := by decide +kernel
theorem tyX8_ok : ∀ k, k < 8 → parseFieldDescriptor (TX8 k).2.2.1 = some (tyX8 k) := by decide +kernel
abbrev cX8_init : ByteArray := prog_10_method_1_code
def yX8_init : MethodName := ⟨RX8, "<init>", "()V"⟩
abbrev cX8_begin : ByteArray := prog_10_method_2_code
def yX8_begin : MethodName := ⟨RX8, "begin", "()V"⟩
abbrev cX8_suppose : ByteArray := prog_10_method_3_code
def yX8_suppose : MethodName := ⟨RX8, "suppose", "(ID)V"⟩
abbrev cX8_tryNumber : ByteArray := prog_10_method_4_code
def yX8_tryNumber : MethodName := ⟨RX8, "tryNumber", "(IDI)I"⟩
abbrev cX8_tryDrawn : ByteArray := prog_10_method_5_code
def yX8_tryDrawn : MethodName := ⟨RX8, "tryDrawn", "(II)I"⟩
abbrev cX8_tellCells : ByteArray := prog_10_method_6_code
def yX8_tellCells : MethodName := ⟨RX8, "tellCells", "(II)V"⟩
abbrev cX8_tellFormula : ByteArray := prog_10_method_7_code
def yX8_tellFormula : MethodName := ⟨RX8, "tellFormula", "(II)V"⟩
abbrev cX8_push : ByteArray := prog_10_method_8_code
def yX8_push : MethodName := ⟨RX8, "push", "(DI)V"⟩
abbrev cX8_negate : ByteArray := prog_10_method_9_code
def yX8_negate : MethodName := ⟨RX8, "negate", "()V"⟩
abbrev cX8_pickPart : ByteArray := prog_10_method_10_code
def yX8_pickPart : MethodName := ⟨RX8, "pickPart", "()V"⟩
abbrev cX8_workOnTwo : ByteArray := prog_10_method_11_code
def yX8_workOnTwo : MethodName := ⟨RX8, "workOnTwo", "(II)V"⟩
abbrev cX8_ask : ByteArray := prog_10_method_12_code
def yX8_ask : MethodName := ⟨RX8, "ask", "(IIII)V"⟩
abbrev cX8_tellTable : ByteArray := prog_10_method_13_code
def yX8_tellTable : MethodName := ⟨RX8, "tellTable", "(II)V"⟩
abbrev cX8_enter : ByteArray := prog_10_method_14_code
def yX8_enter : MethodName := ⟨RX8, "enter", "(I)V"⟩
abbrev cX8_supposeCase : ByteArray := prog_10_method_15_code
def yX8_supposeCase : MethodName := ⟨RX8, "supposeCase", "(ILWhatIfSheet$Grid;II)V"⟩
def RX9 : String := "WhatIfSheet"
def TX9 : u_T := fun k => match k with
  | 0 => ("WhatIfSheet", "teller", "LWhatIfSheet$Teller;", true)
  | 1 => ("WhatIfSheet", "board", "LWhatIfSheet$Board;", true)
  | 2 => ("WhatIfSheet", "names", "LWhatIfSheet$Names;", true)
  | 3 => ("WhatIfSheet", "kept", "LWhatIfSheet$Board;", true)
  | 4 => ("WhatIfSheet", "imaged", "Z", false)
  | 5 => ("WhatIfSheet", "reader", "LWhatIfSheet$Reader;", true)
  | 6 => ("WhatIfSheet", "spare", "LWhatIfSheet$Grid;", false)
  | 7 => ("WhatIfSheet", "rows", "[LWhatIfSheet$Row;", true)
  | _ => ("WhatIfSheet", "bracket", "LWhatIfSheet$Bracket;", true)
def tyX9 : Nat → FieldType := fun k => match k with
  | 0 => .object "WhatIfSheet$Teller"
  | 1 => .object "WhatIfSheet$Board"
  | 2 => .object "WhatIfSheet$Names"
  | 3 => .object "WhatIfSheet$Board"
  | 4 => .boolean
  | 5 => .object "WhatIfSheet$Reader"
  | 6 => .object "WhatIfSheet$Grid"
  | 7 => .array (.object "WhatIfSheet$Row")
  | _ => .object "WhatIfSheet$Bracket"
abbrev wsX90 : List Cond := u_ws RX9 TX9 9
theorem nmX9 : ∀ a, a < 9 → ∀ b, b < 9 → a ≠ b → (TX9 a).2.1 ≠ (TX9 b).2.1 := by decide +kernel
theorem tyX9_ok : ∀ k, k < 9 → parseFieldDescriptor (TX9 k).2.2.1 = some (tyX9 k) := by decide +kernel
abbrev cX9_init : ByteArray := prog_1_method_1_code
def yX9_init : MethodName := ⟨RX9, "<init>", "()V"⟩
abbrev cX9_set : ByteArray := prog_1_method_2_code
def yX9_set : MethodName := ⟨RX9, "set", "(II)I"⟩
abbrev cX9_clear : ByteArray := prog_1_method_3_code
def yX9_clear : MethodName := ⟨RX9, "clear", "(I)I"⟩
abbrev cX9_kind : ByteArray := prog_1_method_4_code
def yX9_kind : MethodName := ⟨RX9, "kind", "(II)I"⟩
abbrev cX9_told : ByteArray := prog_1_method_5_code
def yX9_told : MethodName := ⟨RX9, "told", "(II)I"⟩
abbrev cX9_value : ByteArray := prog_1_method_6_code
def yX9_value : MethodName := ⟨RX9, "value", "(I)J"⟩
abbrev cX9_would : ByteArray := prog_1_method_7_code
def yX9_would : MethodName := ⟨RX9, "would", "(III)J"⟩
abbrev cX9_taken : ByteArray := prog_1_method_8_code
def yX9_taken : MethodName := ⟨RX9, "taken", "(II)I"⟩
abbrev cX9_feed : ByteArray := prog_1_method_9_code
def yX9_feed : MethodName := ⟨RX9, "feed", "(IIIIII)I"⟩
abbrev cX9_formula : ByteArray := prog_1_method_10_code
def yX9_formula : MethodName := ⟨RX9, "formula", "(I)I"⟩
abbrev cX9_table : ByteArray := prog_1_method_11_code
def yX9_table : MethodName := ⟨RX9, "table", "(IIII)I"⟩
abbrev cX9_axis : ByteArray := prog_1_method_12_code
def yX9_axis : MethodName := ⟨RX9, "axis", "(IIIII)I"⟩
abbrev cX9_axisBy : ByteArray := prog_1_method_13_code
def yX9_axisBy : MethodName := ⟨RX9, "axisBy", "(IIIII)I"⟩
abbrev cX9_drop : ByteArray := prog_1_method_14_code
def yX9_drop : MethodName := ⟨RX9, "drop", "(I)I"⟩
abbrev cX9_at : ByteArray := prog_1_method_15_code
def yX9_at : MethodName := ⟨RX9, "at", "(III)J"⟩
abbrev cX9_blame : ByteArray := prog_1_method_16_code
def yX9_blame : MethodName := ⟨RX9, "blame", "(III)I"⟩
abbrev cX9_adds : ByteArray := prog_1_method_17_code
def yX9_adds : MethodName := ⟨RX9, "adds", "(II)J"⟩
abbrev cX9_asks : ByteArray := prog_1_method_18_code
def yX9_asks : MethodName := ⟨RX9, "asks", "(II)I"⟩
abbrev cX9_seek : ByteArray := prog_1_method_19_code
def yX9_seek : MethodName := ⟨RX9, "seek", "(IIIIII)J"⟩
abbrev cX9_swing : ByteArray := prog_1_method_20_code
def yX9_swing : MethodName := ⟨RX9, "swing", "(III)J"⟩
abbrev cX9_chance : ByteArray := prog_1_method_21_code
def yX9_chance : MethodName := ⟨RX9, "chance", "(IIIII)I"⟩
abbrev cX9_film : ByteArray := prog_1_method_22_code
def yX9_film : MethodName := ⟨RX9, "film", "(II)I"⟩
abbrev cX9_tells : ByteArray := prog_1_method_23_code
def yX9_tells : MethodName := ⟨RX9, "tells", "(IIII)I"⟩
abbrev cX9_image : ByteArray := prog_1_method_24_code
def yX9_image : MethodName := ⟨RX9, "image", "()I"⟩
abbrev cX9_back : ByteArray := prog_1_method_25_code
def yX9_back : MethodName := ⟨RX9, "back", "()I"⟩
abbrev cX9_count : ByteArray := prog_1_method_26_code
def yX9_count : MethodName := ⟨RX9, "count", "(I)I"⟩
abbrev cX9_row : ByteArray := prog_1_method_27_code
def yX9_row : MethodName := ⟨RX9, "row", "(III)I"⟩
abbrev cX9_put : ByteArray := prog_1_method_28_code
def yX9_put : MethodName := ⟨RX9, "put", "(III)I"⟩
abbrev cX9_item : ByteArray := prog_1_method_29_code
def yX9_item : MethodName := ⟨RX9, "item", "(II)J"⟩
abbrev cX9_copy : ByteArray := prog_1_method_30_code
def yX9_copy : MethodName := ⟨RX9, "copy", "(IIIII)I"⟩
abbrev cX9_isCell : ByteArray := prog_1_method_31_code
def yX9_isCell : MethodName := ⟨RX9, "isCell", "(I)Z"⟩
abbrev cX9_isTable : ByteArray := prog_1_method_32_code
def yX9_isTable : MethodName := ⟨RX9, "isTable", "(I)Z"⟩
abbrev cX9_isRow : ByteArray := prog_1_method_33_code
def yX9_isRow : MethodName := ⟨RX9, "isRow", "(I)Z"⟩
abbrev cX9_isKind : ByteArray := prog_1_method_34_code
def yX9_isKind : MethodName := ⟨RX9, "isKind", "(I)Z"⟩
abbrev cX9_isByte : ByteArray := prog_1_method_35_code
def yX9_isByte : MethodName := ⟨RX9, "isByte", "(I)Z"⟩
abbrev cX9_isWithin : ByteArray := prog_1_method_36_code
def yX9_isWithin : MethodName := ⟨RX9, "isWithin", "(II)Z"⟩
abbrev cX9_hasNode : ByteArray := prog_1_method_37_code
def yX9_hasNode : MethodName := ⟨RX9, "hasNode", "(II)Z"⟩
abbrev cX9_wrongBy : ByteArray := prog_1_method_38_code
def yX9_wrongBy : MethodName := ⟨RX9, "wrongBy", "(II)I"⟩
abbrev cX9_errorOf : ByteArray := prog_1_method_39_code
def yX9_errorOf : MethodName := ⟨RX9, "errorOf", "(I)I"⟩
abbrev cX9_blameOf : ByteArray := prog_1_method_40_code
def yX9_blameOf : MethodName := ⟨RX9, "blameOf", "(I)I"⟩
abbrev cX9_answer : ByteArray := prog_1_method_41_code
def yX9_answer : MethodName := ⟨RX9, "answer", "(DI)J"⟩
abbrev cX9_wrongNow : ByteArray := prog_1_method_42_code
def yX9_wrongNow : MethodName := ⟨RX9, "wrongNow", "(I)I"⟩
abbrev cX9_tallyNow : ByteArray := prog_1_method_43_code
def yX9_tallyNow : MethodName := ⟨RX9, "tallyNow", "(I)LWhatIfSheet$Tally;"⟩
abbrev cX9_refuseCase : ByteArray := prog_1_method_44_code
def yX9_refuseCase : MethodName := ⟨RX9, "refuseCase", "(III)I"⟩
abbrev cX9_wrongIn : ByteArray := prog_1_method_45_code
def yX9_wrongIn : MethodName := ⟨RX9, "wrongIn", "(III)I"⟩
abbrev cX9_takeFormula : ByteArray := prog_1_method_46_code
def yX9_takeFormula : MethodName := ⟨RX9, "takeFormula", "(I)Z"⟩
abbrev cX9_laySpare : ByteArray := prog_1_method_47_code
def yX9_laySpare : MethodName := ⟨RX9, "laySpare", "(I)Z"⟩
abbrev cX9_canVary : ByteArray := prog_1_method_48_code
def yX9_canVary : MethodName := ⟨RX9, "canVary", "(II)Z"⟩
abbrev cX9_closeIn : ByteArray := prog_1_method_49_code
def yX9_closeIn : MethodName := ⟨RX9, "closeIn", "(II)V"⟩
abbrev cX9_apartBy : ByteArray := prog_1_method_50_code
def yX9_apartBy : MethodName := ⟨RX9, "apartBy", "(IID)D"⟩
abbrev cX9_commonPart : ByteArray := prog_1_method_51_code
def yX9_commonPart : MethodName := ⟨RX9, "commonPart", "(II)I"⟩
abbrev cX9_kindsSo : ByteArray := prog_1_method_52_code
def yX9_kindsSo : MethodName := ⟨RX9, "kindsSo", "(ILWhatIfSheet$Row;I)I"⟩
abbrev cX9_numbersSo : ByteArray := prog_1_method_53_code
def yX9_numbersSo : MethodName := ⟨RX9, "numbersSo", "(ILWhatIfSheet$Row;IZ)I"⟩
abbrev cX9_asSort : ByteArray := prog_1_method_54_code
def yX9_asSort : MethodName := ⟨RX9, "asSort", "(II)D"⟩
abbrev cX9_keep : ByteArray := prog_1_method_55_code
def yX9_keep : MethodName := ⟨RX9, "keep", "(ID)D"⟩
abbrev cX9_leftOver : ByteArray := prog_1_method_56_code
def yX9_leftOver : MethodName := ⟨RX9, "leftOver", "(DD)D"⟩
abbrev cX9_bits : ByteArray := prog_1_method_57_code
def yX9_bits : MethodName := ⟨RX9, "bits", "(D)J"⟩
def RX10 : String := "WhatIfSheetModel"
def TX10 : u_T := fun k => match k with
  | 0 => ("WhatIfSheetModel", "kinds", "[I", true)
  | 1 => ("WhatIfSheetModel", "given", "[Z", true)
  | 2 => ("WhatIfSheetModel", "numbers", "[D", true)
  | 3 => ("WhatIfSheetModel", "sizes", "[I", true)
  | 4 => ("WhatIfSheetModel", "marks", "[[I", true)
  | 5 => ("WhatIfSheetModel", "figures", "[[D", true)
  | 6 => ("WhatIfSheetModel", "laid", "[Z", true)
  | 7 => ("WhatIfSheetModel", "outputs", "[I", true)
  | 8 => ("WhatIfSheetModel", "ones", "[I", true)
  | 9 => ("WhatIfSheetModel", "others", "[I", true)
  | 10 => ("WhatIfSheetModel", "axisSizes", "[I", true)
  | 11 => ("WhatIfSheetModel", "axes", "[[D", true)
  | 12 => ("WhatIfSheetModel", "cellNames", "[I", true)
  | 13 => ("WhatIfSheetModel", "tableTimes", "[[I", true)
  | 14 => ("WhatIfSheetModel", "hasRead", "[Z", true)
  | 15 => ("WhatIfSheetModel", "read", "[I", true)
  | 16 => ("WhatIfSheetModel", "hasBurden", "[Z", true)
  | 17 => ("WhatIfSheetModel", "burden", "[I", true)
  | 18 => ("WhatIfSheetModel", "deep", "I", false)
  | 19 => ("WhatIfSheetModel", "told", "[[Z", true)
  | 20 => ("WhatIfSheetModel", "values", "[[D", true)
  | 21 => ("WhatIfSheetModel", "errors", "[[I", true)
  | 22 => ("WhatIfSheetModel", "blames", "[[I", true)
  | 23 => ("WhatIfSheetModel", "summed", "[[Z", true)
  | 24 => ("WhatIfSheetModel", "sums", "[[D", true)
  | 25 => ("WhatIfSheetModel", "sumErrors", "[[I", true)
  | 26 => ("WhatIfSheetModel", "top", "I", false)
  | 27 => ("WhatIfSheetModel", "heap", "[D", true)
  | 28 => ("WhatIfSheetModel", "heapErrors", "[I", true)
  | 29 => ("WhatIfSheetModel", "heapBlames", "[I", true)
  | 30 => ("WhatIfSheetModel", "caseValue", "D", false)
  | 31 => ("WhatIfSheetModel", "caseError", "I", false)
  | 32 => ("WhatIfSheetModel", "caseBlame", "I", false)
  | 33 => ("WhatIfSheetModel", "tape", "[I", true)
  | 34 => ("WhatIfSheetModel", "taped", "I", false)
  | 35 => ("WhatIfSheetModel", "newMarks", "[I", true)
  | 36 => ("WhatIfSheetModel", "newFigures", "[D", true)
  | 37 => ("WhatIfSheetModel", "newSize", "I", false)
  | 38 => ("WhatIfSheetModel", "newFigureMany", "I", false)
  | 39 => ("WhatIfSheetModel", "at", "I", false)
  | 40 => ("WhatIfSheetModel", "begin", "I", false)
  | 41 => ("WhatIfSheetModel", "token", "I", false)
  | 42 => ("WhatIfSheetModel", "sign", "I", false)
  | 43 => ("WhatIfSheetModel", "whole", "I", false)
  | 44 => ("WhatIfSheetModel", "behind", "I", false)
  | 45 => ("WhatIfSheetModel", "opened", "I", false)
  | 46 => ("WhatIfSheetModel", "isWrong", "Z", false)
  | 47 => ("WhatIfSheetModel", "oldMarks", "[I", true)
  | 48 => ("WhatIfSheetModel", "oldFigures", "[D", true)
  | 49 => ("WhatIfSheetModel", "hasLeast", "[Z", true)
  | 50 => ("WhatIfSheetModel", "least", "[I", true)
  | 51 => ("WhatIfSheetModel", "fMany", "I", false)
  | 52 => ("WhatIfSheetModel", "fFails", "Z", false)
  | 53 => ("WhatIfSheetModel", "found", "D", false)
  | 54 => ("WhatIfSheetModel", "foundF", "D", false)
  | 55 => ("WhatIfSheetModel", "oldNumbers", "[D", true)
  | 56 => ("WhatIfSheetModel", "oldGiven", "[Z", true)
  | 57 => ("WhatIfSheetModel", "hasImage", "Z", false)
  | 58 => ("WhatIfSheetModel", "imageKinds", "[I", true)
  | 59 => ("WhatIfSheetModel", "imageSizes", "[I", true)
  | 60 => ("WhatIfSheetModel", "imageGiven", "[Z", true)
  | 61 => ("WhatIfSheetModel", "imageLaid", "[Z", true)
  | 62 => ("WhatIfSheetModel", "imageNumbers", "[D", true)
  | 63 => ("WhatIfSheetModel", "imageMarks", "[[I", true)
  | 64 => ("WhatIfSheetModel", "imageFigures", "[[D", true)
  | 65 => ("WhatIfSheetModel", "imageOutputs", "[I", true)
  | 66 => ("WhatIfSheetModel", "imageOnes", "[I", true)
  | 67 => ("WhatIfSheetModel", "imageOthers", "[I", true)
  | 68 => ("WhatIfSheetModel", "imageAxisSizes", "[I", true)
  | 69 => ("WhatIfSheetModel", "imageAxes", "[[D", true)
  | 70 => ("WhatIfSheetModel", "rows", "[I", true)
  | 71 => ("WhatIfSheetModel", "lengths", "[I", true)
  | 72 => ("WhatIfSheetModel", "items", "[[D", true)
  | 73 => ("WhatIfSheetModel", "isFailed", "[[Z", true)
  | 74 => ("WhatIfSheetModel", "passed", "[D", true)
  | _ => ("WhatIfSheetModel", "passedFailed", "[Z", true)
def tyX10 : Nat → FieldType := fun k => match k with
  | 0 => .array .int
  | 1 => .array .boolean
  | 2 => .array .double
  | 3 => .array .int
  | 4 => .array (.array .int)
  | 5 => .array (.array .double)
  | 6 => .array .boolean
  | 7 => .array .int
  | 8 => .array .int
  | 9 => .array .int
  | 10 => .array .int
  | 11 => .array (.array .double)
  | 12 => .array .int
  | 13 => .array (.array .int)
  | 14 => .array .boolean
  | 15 => .array .int
  | 16 => .array .boolean
  | 17 => .array .int
  | 18 => .int
  | 19 => .array (.array .boolean)
  | 20 => .array (.array .double)
  | 21 => .array (.array .int)
  | 22 => .array (.array .int)
  | 23 => .array (.array .boolean)
  | 24 => .array (.array .double)
  | 25 => .array (.array .int)
  | 26 => .int
  | 27 => .array .double
  | 28 => .array .int
  | 29 => .array .int
  | 30 => .double
  | 31 => .int
  | 32 => .int
  | 33 => .array .int
  | 34 => .int
  | 35 => .array .int
  | 36 => .array .double
  | 37 => .int
  | 38 => .int
  | 39 => .int
  | 40 => .int
  | 41 => .int
  | 42 => .int
  | 43 => .int
  | 44 => .int
  | 45 => .int
  | 46 => .boolean
  | 47 => .array .int
  | 48 => .array .double
  | 49 => .array .boolean
  | 50 => .array .int
  | 51 => .int
  | 52 => .boolean
  | 53 => .double
  | 54 => .double
  | 55 => .array .double
  | 56 => .array .boolean
  | 57 => .boolean
  | 58 => .array .int
  | 59 => .array .int
  | 60 => .array .boolean
  | 61 => .array .boolean
  | 62 => .array .double
  | 63 => .array (.array .int)
  | 64 => .array (.array .double)
  | 65 => .array .int
  | 66 => .array .int
  | 67 => .array .int
  | 68 => .array .int
  | 69 => .array (.array .double)
  | 70 => .array .int
  | 71 => .array .int
  | 72 => .array (.array .double)
  | 73 => .array (.array .boolean)
  | 74 => .array .double
  | _ => .array .boolean
abbrev wsX100 : List Cond := u_ws RX10 TX10 76
theorem nmX10 : ∀ a, a < 76 → ∀ b, b < 76 → a ≠ b → (TX10 a).2.1 ≠ (TX10 b).2.1 := by decide +kernel
theorem tyX10_ok : ∀ k, k < 76 → parseFieldDescriptor (TX10 k).2.2.1 = some (tyX10 k) := by decide +kernel
abbrev cX10_init : ByteArray := prog_12_method_1_code
def yX10_init : MethodName := ⟨RX10, "<init>", "()V"⟩
abbrev cX10_in : ByteArray := prog_12_method_2_code
def yX10_in : MethodName := ⟨RX10, "in", "(III)Z"⟩
abbrev cX10_isCell : ByteArray := prog_12_method_3_code
def yX10_isCell : MethodName := ⟨RX10, "isCell", "(I)Z"⟩
abbrev cX10_isTable : ByteArray := prog_12_method_4_code
def yX10_isTable : MethodName := ⟨RX10, "isTable", "(I)Z"⟩
abbrev cX10_isInput : ByteArray := prog_12_method_5_code
def yX10_isInput : MethodName := ⟨RX10, "isInput", "(I)Z"⟩
abbrev cX10_plain : ByteArray := prog_12_method_6_code
def yX10_plain : MethodName := ⟨RX10, "plain", "(D)D"⟩
abbrev cX10_kept : ByteArray := prog_12_method_7_code
def yX10_kept : MethodName := ⟨RX10, "kept", "(ID)D"⟩
abbrev cX10_tellNames : ByteArray := prog_12_method_8_code
def yX10_tellNames : MethodName := ⟨RX10, "tellNames", "(I)V"⟩
abbrev cX10_namesCells : ByteArray := prog_12_method_9_code
def yX10_namesCells : MethodName := ⟨RX10, "namesCells", "(I)I"⟩
abbrev cX10_times : ByteArray := prog_12_method_10_code
def yX10_times : MethodName := ⟨RX10, "times", "(II)I"⟩
abbrev cX10_reached : ByteArray := prog_12_method_11_code
def yX10_reached : MethodName := ⟨RX10, "reached", "(I)I"⟩
abbrev cX10_comeTo : ByteArray := prog_12_method_12_code
def yX10_comeTo : MethodName := ⟨RX10, "comeTo", "(I)I"⟩
abbrev cX10_readOf : ByteArray := prog_12_method_13_code
def yX10_readOf : MethodName := ⟨RX10, "readOf", "(I)I"⟩
abbrev cX10_varied : ByteArray := prog_12_method_14_code
def yX10_varied : MethodName := ⟨RX10, "varied", "(I)I"⟩
abbrev cX10_reads : ByteArray := prog_12_method_15_code
def yX10_reads : MethodName := ⟨RX10, "reads", "(I)I"⟩
abbrev cX10_cases : ByteArray := prog_12_method_16_code
def yX10_cases : MethodName := ⟨RX10, "cases", "(I)I"⟩
abbrev cX10_burdenOf : ByteArray := prog_12_method_17_code
def yX10_burdenOf : MethodName := ⟨RX10, "burdenOf", "(I)I"⟩
abbrev cX10_burdenOfTable : ByteArray := prog_12_method_18_code
def yX10_burdenOfTable : MethodName := ⟨RX10, "burdenOfTable", "(I)I"⟩
abbrev cX10_burdenNow : ByteArray := prog_12_method_19_code
def yX10_burdenNow : MethodName := ⟨RX10, "burdenNow", "(I)I"⟩
abbrev cX10_isTooMuch : ByteArray := prog_12_method_20_code
def yX10_isTooMuch : MethodName := ⟨RX10, "isTooMuch", "()Z"⟩
abbrev cX10_push : ByteArray := prog_12_method_21_code
def yX10_push : MethodName := ⟨RX10, "push", "(DII)V"⟩
abbrev cX10_afresh : ByteArray := prog_12_method_22_code
def yX10_afresh : MethodName := ⟨RX10, "afresh", "()V"⟩
abbrev cX10_tell : ByteArray := prog_12_method_23_code
def yX10_tell : MethodName := ⟨RX10, "tell", "(I)V"⟩
abbrev cX10_act : ByteArray := prog_12_method_24_code
def yX10_act : MethodName := ⟨RX10, "act", "(II)V"⟩
abbrev cX10_pick : ByteArray := prog_12_method_25_code
def yX10_pick : MethodName := ⟨RX10, "pick", "()V"⟩
abbrev cX10_two : ByteArray := prog_12_method_26_code
def yX10_two : MethodName := ⟨RX10, "two", "(II)V"⟩
abbrev cX10_tellCase : ByteArray := prog_12_method_27_code
def yX10_tellCase : MethodName := ⟨RX10, "tellCase", "(III)V"⟩
abbrev cX10_sumUp : ByteArray := prog_12_method_28_code
def yX10_sumUp : MethodName := ⟨RX10, "sumUp", "(I)V"⟩
abbrev cX10_tellNow : ByteArray := prog_12_method_29_code
def yX10_tellNow : MethodName := ⟨RX10, "tellNow", "(I)V"⟩
abbrev cX10_valueNow : ByteArray := prog_12_method_30_code
def yX10_valueNow : MethodName := ⟨RX10, "valueNow", "(I)D"⟩
abbrev cX10_errorOf : ByteArray := prog_12_method_31_code
def yX10_errorOf : MethodName := ⟨RX10, "errorOf", "(I)I"⟩
abbrev cX10_bits : ByteArray := prog_12_method_32_code
def yX10_bits : MethodName := ⟨RX10, "bits", "(D)J"⟩
abbrev cX10_answer : ByteArray := prog_12_method_33_code
def yX10_answer : MethodName := ⟨RX10, "answer", "(DI)J"⟩
abbrev cX10_isEighths : ByteArray := prog_12_method_34_code
def yX10_isEighths : MethodName := ⟨RX10, "isEighths", "(I)Z"⟩
abbrev cX10_set : ByteArray := prog_12_method_35_code
def yX10_set : MethodName := ⟨RX10, "set", "(II)I"⟩
abbrev cX10_clear : ByteArray := prog_12_method_36_code
def yX10_clear : MethodName := ⟨RX10, "clear", "(I)I"⟩
abbrev cX10_kind : ByteArray := prog_12_method_37_code
def yX10_kind : MethodName := ⟨RX10, "kind", "(II)I"⟩
abbrev cX10_told : ByteArray := prog_12_method_38_code
def yX10_told : MethodName := ⟨RX10, "told", "(II)I"⟩
abbrev cX10_value : ByteArray := prog_12_method_39_code
def yX10_value : MethodName := ⟨RX10, "value", "(I)J"⟩
abbrev cX10_valueBy : ByteArray := prog_12_method_40_code
def yX10_valueBy : MethodName := ⟨RX10, "valueBy", "(IDI)D"⟩
abbrev cX10_would : ByteArray := prog_12_method_41_code
def yX10_would : MethodName := ⟨RX10, "would", "(III)J"⟩
abbrev cX10_taken : ByteArray := prog_12_method_42_code
def yX10_taken : MethodName := ⟨RX10, "taken", "(II)I"⟩
abbrev cX10_isByte : ByteArray := prog_12_method_43_code
def yX10_isByte : MethodName := ⟨RX10, "isByte", "(I)Z"⟩
abbrev cX10_feed : ByteArray := prog_12_method_44_code
def yX10_feed : MethodName := ⟨RX10, "feed", "(IIIIII)I"⟩
abbrev cX10_byteAt : ByteArray := prog_12_method_45_code
def yX10_byteAt : MethodName := ⟨RX10, "byteAt", "(I)I"⟩
abbrev cX10_isDigit : ByteArray := prog_12_method_46_code
def yX10_isDigit : MethodName := ⟨RX10, "isDigit", "()Z"⟩
abbrev cX10_next : ByteArray := prog_12_method_47_code
def yX10_next : MethodName := ⟨RX10, "next", "()V"⟩
abbrev cX10_number : ByteArray := prog_12_method_48_code
def yX10_number : MethodName := ⟨RX10, "number", "()V"⟩
abbrev cX10_isWord : ByteArray := prog_12_method_49_code
def yX10_isWord : MethodName := ⟨RX10, "isWord", "(Ljava/lang/String;)Z"⟩
abbrev cX10_word : ByteArray := prog_12_method_50_code
def yX10_word : MethodName := ⟨RX10, "word", "()I"⟩
abbrev cX10_isSign : ByteArray := prog_12_method_51_code
def yX10_isSign : MethodName := ⟨RX10, "isSign", "(I)Z"⟩
abbrev cX10_need : ByteArray := prog_12_method_52_code
def yX10_need : MethodName := ⟨RX10, "need", "(I)V"⟩
abbrev cX10_mark : ByteArray := prog_12_method_53_code
def yX10_mark : MethodName := ⟨RX10, "mark", "(I)V"⟩
abbrev cX10_all : ByteArray := prog_12_method_54_code
def yX10_all : MethodName := ⟨RX10, "all", "()V"⟩
abbrev cX10_sum : ByteArray := prog_12_method_55_code
def yX10_sum : MethodName := ⟨RX10, "sum", "()V"⟩
abbrev cX10_term : ByteArray := prog_12_method_56_code
def yX10_term : MethodName := ⟨RX10, "term", "()V"⟩
abbrev cX10_opens : ByteArray := prog_12_method_57_code
def yX10_opens : MethodName := ⟨RX10, "opens", "()Z"⟩
abbrev cX10_parts : ByteArray := prog_12_method_58_code
def yX10_parts : MethodName := ⟨RX10, "parts", "(I)V"⟩
abbrev cX10_one : ByteArray := prog_12_method_59_code
def yX10_one : MethodName := ⟨RX10, "one", "()V"⟩
abbrev cX10_ofTable : ByteArray := prog_12_method_60_code
def yX10_ofTable : MethodName := ⟨RX10, "ofTable", "(I)V"⟩
abbrev cX10_isRead : ByteArray := prog_12_method_61_code
def yX10_isRead : MethodName := ⟨RX10, "isRead", "()Z"⟩
abbrev cX10_isVaried : ByteArray := prog_12_method_62_code
def yX10_isVaried : MethodName := ⟨RX10, "isVaried", "(I)Z"⟩
abbrev cX10_newNames : ByteArray := prog_12_method_63_code
def yX10_newNames : MethodName := ⟨RX10, "newNames", "()I"⟩
abbrev cX10_formula : ByteArray := prog_12_method_64_code
def yX10_formula : MethodName := ⟨RX10, "formula", "(I)I"⟩
abbrev cX10_table : ByteArray := prog_12_method_65_code
def yX10_table : MethodName := ⟨RX10, "table", "(IIII)I"⟩
abbrev cX10_hasRoom : ByteArray := prog_12_method_66_code
def yX10_hasRoom : MethodName := ⟨RX10, "hasRoom", "(III)Z"⟩
abbrev cX10_axis : ByteArray := prog_12_method_67_code
def yX10_axis : MethodName := ⟨RX10, "axis", "(IIIII)I"⟩
abbrev cX10_axisBy : ByteArray := prog_12_method_68_code
def yX10_axisBy : MethodName := ⟨RX10, "axisBy", "(IIIII)I"⟩
abbrev cX10_drop : ByteArray := prog_12_method_69_code
def yX10_drop : MethodName := ⟨RX10, "drop", "(I)I"⟩
abbrev cX10_refusal : ByteArray := prog_12_method_70_code
def yX10_refusal : MethodName := ⟨RX10, "refusal", "(III)I"⟩
abbrev cX10_tellCaseNow : ByteArray := prog_12_method_71_code
def yX10_tellCaseNow : MethodName := ⟨RX10, "tellCaseNow", "(III)V"⟩
abbrev cX10_at : ByteArray := prog_12_method_72_code
def yX10_at : MethodName := ⟨RX10, "at", "(III)J"⟩
abbrev cX10_blame : ByteArray := prog_12_method_73_code
def yX10_blame : MethodName := ⟨RX10, "blame", "(III)I"⟩
abbrev cX10_adds : ByteArray := prog_12_method_74_code
def yX10_adds : MethodName := ⟨RX10, "adds", "(II)J"⟩
abbrev cX10_caseOf : ByteArray := prog_12_method_75_code
def yX10_caseOf : MethodName := ⟨RX10, "caseOf", "(IZ)I"⟩
abbrev cX10_slice : ByteArray := prog_12_method_76_code
def yX10_slice : MethodName := ⟨RX10, "slice", "(I)I"⟩
abbrev cX10_unlikeOnes : ByteArray := prog_12_method_77_code
def yX10_unlikeOnes : MethodName := ⟨RX10, "unlikeOnes", "(II)I"⟩
abbrev cX10_toldLeast : ByteArray := prog_12_method_78_code
def yX10_toldLeast : MethodName := ⟨RX10, "toldLeast", "(I)I"⟩
abbrev cX10_asks : ByteArray := prog_12_method_79_code
def yX10_asks : MethodName := ⟨RX10, "asks", "(II)I"⟩
abbrev cX10_f : ByteArray := prog_12_method_80_code
def yX10_f : MethodName := ⟨RX10, "f", "(IID)D"⟩
abbrev cX10_finds : ByteArray := prog_12_method_81_code
def yX10_finds : MethodName := ⟨RX10, "finds", "(DD)V"⟩
abbrev cX10_seeks : ByteArray := prog_12_method_82_code
def yX10_seeks : MethodName := ⟨RX10, "seeks", "(IIDDD)Z"⟩
abbrev cX10_isWanted : ByteArray := prog_12_method_83_code
def yX10_isWanted : MethodName := ⟨RX10, "isWanted", "(I)Z"⟩
abbrev cX10_seek : ByteArray := prog_12_method_84_code
def yX10_seek : MethodName := ⟨RX10, "seek", "(IIIIII)J"⟩
abbrev cX10_swing : ByteArray := prog_12_method_85_code
def yX10_swing : MethodName := ⟨RX10, "swing", "(III)J"⟩
abbrev cX10_isSoByLot : ByteArray := prog_12_method_86_code
def yX10_isSoByLot : MethodName := ⟨RX10, "isSoByLot", "(IIID)Z"⟩
abbrev cX10_common : ByteArray := prog_12_method_87_code
def yX10_common : MethodName := ⟨RX10, "common", "(II)I"⟩
abbrev cX10_chance : ByteArray := prog_12_method_88_code
def yX10_chance : MethodName := ⟨RX10, "chance", "(IIIII)I"⟩
abbrev cX10_film : ByteArray := prog_12_method_89_code
def yX10_film : MethodName := ⟨RX10, "film", "(II)I"⟩
abbrev cX10_otherwise : ByteArray := prog_12_method_90_code
def yX10_otherwise : MethodName := ⟨RX10, "otherwise", "(II)I"⟩
abbrev cX10_kindsBy : ByteArray := prog_12_method_91_code
def yX10_kindsBy : MethodName := ⟨RX10, "kindsBy", "(III)I"⟩
abbrev cX10_numbersBy : ByteArray := prog_12_method_92_code
def yX10_numbersBy : MethodName := ⟨RX10, "numbersBy", "(IIIZ)I"⟩
abbrev cX10_tells : ByteArray := prog_12_method_93_code
def yX10_tells : MethodName := ⟨RX10, "tells", "(IIII)I"⟩
abbrev cX10_formulas : ByteArray := prog_12_method_94_code
def yX10_formulas : MethodName := ⟨RX10, "formulas", "()I"⟩
abbrev cX10_image : ByteArray := prog_12_method_95_code
def yX10_image : MethodName := ⟨RX10, "image", "()I"⟩
abbrev cX10_back : ByteArray := prog_12_method_96_code
def yX10_back : MethodName := ⟨RX10, "back", "()I"⟩
abbrev cX10_count : ByteArray := prog_12_method_97_code
def yX10_count : MethodName := ⟨RX10, "count", "(I)I"⟩
abbrev cX10_isRow : ByteArray := prog_12_method_98_code
def yX10_isRow : MethodName := ⟨RX10, "isRow", "(I)Z"⟩
abbrev cX10_row : ByteArray := prog_12_method_99_code
def yX10_row : MethodName := ⟨RX10, "row", "(III)I"⟩
abbrev cX10_itemRefusal : ByteArray := prog_12_method_100_code
def yX10_itemRefusal : MethodName := ⟨RX10, "itemRefusal", "(II)I"⟩
abbrev cX10_put : ByteArray := prog_12_method_101_code
def yX10_put : MethodName := ⟨RX10, "put", "(III)I"⟩
abbrev cX10_item : ByteArray := prog_12_method_102_code
def yX10_item : MethodName := ⟨RX10, "item", "(II)J"⟩
abbrev cX10_copy : ByteArray := prog_12_method_103_code
def yX10_copy : MethodName := ⟨RX10, "copy", "(IIIII)I"⟩
def RJ11 : String := "java/lang/Character"
def TJ11 : u_T := fun k => match k with
  | _ => ("", "", "", false)
def tyJ11 : Nat → FieldType := fun k => match k with
  | _ => .int
abbrev wsJ110 : List Cond := u_ws RJ11 TJ11 0
theorem nmJ11 : ∀ a, a < 0 → ∀ b, b < 0 → a ≠ b → (TJ11 a).2.1 ≠ (TJ11 b).2.1 := by decide +kernel
theorem tyJ11_ok : ∀ k, k < 0 → parseFieldDescriptor (TJ11 k).2.2.1 = some (tyJ11 k) := by decide +kernel
abbrev cJ11_isValidCodePoint_9a6ad : ByteArray := prog_13_method_11_code
def yJ11_isValidCodePoint_9a6ad : MethodName := ⟨RJ11, "isValidCodePoint", "(I)Z"⟩
abbrev cJ11_highSurrogate_5068e : ByteArray := prog_13_method_28_code
def yJ11_highSurrogate_5068e : MethodName := ⟨RJ11, "highSurrogate", "(I)C"⟩
abbrev cJ11_lowSurrogate_5068e : ByteArray := prog_13_method_29_code
def yJ11_lowSurrogate_5068e : MethodName := ⟨RJ11, "lowSurrogate", "(I)C"⟩
def RJxe99ae : String := "java/lang/Double"
def TJxe99ae : u_T := fun k => match k with
  | _ => ("", "", "", false)
def tyJxe99ae : Nat → FieldType := fun k => match k with
  | _ => .int
abbrev wsJxe99ae0 : List Cond := u_ws RJxe99ae TJxe99ae 0
theorem nmJxe99ae : ∀ a, a < 0 → ∀ b, b < 0 → a ≠ b → (TJxe99ae a).2.1 ≠ (TJxe99ae b).2.1 := by decide +kernel
theorem tyJxe99ae_ok : ∀ k, k < 0 → parseFieldDescriptor (TJxe99ae k).2.2.1 = some (tyJxe99ae k) := by decide +kernel
abbrev cJxe99ae_isNaN_b9ae7 : ByteArray := prog_14_method_6_code
def yJxe99ae_isNaN_b9ae7 : MethodName := ⟨RJxe99ae, "isNaN", "(D)Z"⟩
abbrev cJxe99ae_doubleToLongBits_ccdee : ByteArray := prog_14_method_23_code
def yJxe99ae_doubleToLongBits_ccdee : MethodName := ⟨RJxe99ae, "doubleToLongBits", "(D)J"⟩
def RJ9 : String := "java/lang/Math"
def TJ9 : u_T := fun k => match k with
  | _ => ("", "", "", false)
def tyJ9 : Nat → FieldType := fun k => match k with
  | _ => .int
abbrev wsJ90 : List Cond := u_ws RJ9 TJ9 0
theorem nmJ9 : ∀ a, a < 0 → ∀ b, b < 0 → a ≠ b → (TJ9 a).2.1 ≠ (TJ9 b).2.1 := by decide +kernel
theorem tyJ9_ok : ∀ k, k < 0 → parseFieldDescriptor (TJ9 k).2.2.1 = some (tyJ9 k) := by decide +kernel
abbrev cJ9_abs_294c1 : ByteArray := prog_15_method_64_code
def yJ9_abs_294c1 : MethodName := ⟨RJ9, "abs", "(D)D"⟩
abbrev cJ9_max_7cf53 : ByteArray := prog_15_method_65_code
def yJ9_max_7cf53 : MethodName := ⟨RJ9, "max", "(II)I"⟩
abbrev cJ9_min_7cf53 : ByteArray := prog_15_method_69_code
def yJ9_min_7cf53 : MethodName := ⟨RJ9, "min", "(II)I"⟩
abbrev cJ9_min_f86c9 : ByteArray := prog_15_method_70_code
def yJ9_min_f86c9 : MethodName := ⟨RJ9, "min", "(JJ)J"⟩
def RJ0 : String := "java/lang/String"
def TJ0 : u_T := fun k => match k with
  | _ => ("", "", "", false)
def tyJ0 : Nat → FieldType := fun k => match k with
  | _ => .int
abbrev wsJ00 : List Cond := u_ws RJ0 TJ0 0
theorem nmJ0 : ∀ a, a < 0 → ∀ b, b < 0 → a ≠ b → (TJ0 a).2.1 ≠ (TJ0 b).2.1 := by decide +kernel
theorem tyJ0_ok : ∀ k, k < 0 → parseFieldDescriptor (TJ0 k).2.2.1 = some (tyJ0 k) := by decide +kernel
abbrev cJ0_length_8abf5 : ByteArray := prog_16_method_54_code
def yJ0_length_8abf5 : MethodName := ⟨RJ0, "length", "()I"⟩
abbrev cJ0_charAt_5068e : ByteArray := prog_16_method_56_code
def yJ0_charAt_5068e : MethodName := ⟨RJ0, "charAt", "(I)C"⟩
abbrev cJ0_indexOf_0f7a4 : ByteArray := prog_16_method_79_code
def yJ0_indexOf_0f7a4 : MethodName := ⟨RJ0, "indexOf", "(I)I"⟩
abbrev cJ0_indexOf_7cf53 : ByteArray := prog_16_method_80_code
def yJ0_indexOf_7cf53 : MethodName := ⟨RJ0, "indexOf", "(II)I"⟩
abbrev cJ0_coder_7d493 : ByteArray := prog_16_method_152_code
def yJ0_coder_7d493 : MethodName := ⟨RJ0, "coder", "()B"⟩
abbrev cJ0_isLatin1_aae02 : ByteArray := prog_16_method_154_code
def yJ0_isLatin1_aae02 : MethodName := ⟨RJ0, "isLatin1", "()Z"⟩
abbrev cJ0_checkIndex_df160 : ByteArray := prog_16_method_155_code
def yJ0_checkIndex_df160 : MethodName := ⟨RJ0, "checkIndex", "(II)V"⟩
abbrev cJ0_checkBoundsBeginEnd_23922 : ByteArray := prog_16_method_158_code
def yJ0_checkBoundsBeginEnd_23922 : MethodName := ⟨RJ0, "checkBoundsBeginEnd", "(III)V"⟩
def RJ1 : String := "java/lang/StringLatin1"
def TJ1 : u_T := fun k => match k with
  | _ => ("", "", "", false)
def tyJ1 : Nat → FieldType := fun k => match k with
  | _ => .int
abbrev wsJ10 : List Cond := u_ws RJ1 TJ1 0
theorem nmJ1 : ∀ a, a < 0 → ∀ b, b < 0 → a ≠ b → (TJ1 a).2.1 ≠ (TJ1 b).2.1 := by decide +kernel
theorem tyJ1_ok : ∀ k, k < 0 → parseFieldDescriptor (TJ1 k).2.2.1 = some (tyJ1 k) := by decide +kernel
abbrev cJ1_charAt_3b067 : ByteArray := prog_17_method_2_code
def yJ1_charAt_3b067 : MethodName := ⟨RJ1, "charAt", "([BI)C"⟩
abbrev cJ1_canEncode_9a6ad : ByteArray := prog_17_method_4_code
def yJ1_canEncode_9a6ad : MethodName := ⟨RJ1, "canEncode", "(I)Z"⟩
abbrev cJ1_indexOf_4cfef : ByteArray := prog_17_method_22_code
def yJ1_indexOf_4cfef : MethodName := ⟨RJ1, "indexOf", "([BIII)I"⟩
abbrev cJ1_indexOfChar_4cfef : ByteArray := prog_17_method_23_code
def yJ1_indexOfChar_4cfef : MethodName := ⟨RJ1, "indexOfChar", "([BIII)I"⟩
def RJ2 : String := "java/lang/StringUTF16"
def TJ2 : u_T := fun k => match k with
  | _ => ("", "", "", false)
def tyJ2 : Nat → FieldType := fun k => match k with
  | _ => .int
abbrev wsJ20 : List Cond := u_ws RJ2 TJ2 0
theorem nmJ2 : ∀ a, a < 0 → ∀ b, b < 0 → a ≠ b → (TJ2 a).2.1 ≠ (TJ2 b).2.1 := by decide +kernel
theorem tyJ2_ok : ∀ k, k < 0 → parseFieldDescriptor (TJ2 k).2.2.1 = some (tyJ2 k) := by decide +kernel
abbrev cJ2_getChar_3b067 : ByteArray := prog_18_method_5_code
def yJ2_getChar_3b067 : MethodName := ⟨RJ2, "getChar", "([BI)C"⟩
abbrev cJ2_length_9d52b : ByteArray := prog_18_method_6_code
def yJ2_length_9d52b : MethodName := ⟨RJ2, "length", "([B)I"⟩
abbrev cJ2_indexOf_4cfef : ByteArray := prog_18_method_40_code
def yJ2_indexOf_4cfef : MethodName := ⟨RJ2, "indexOf", "([BIII)I"⟩
abbrev cJ2_indexOfChar_4cfef : ByteArray := prog_18_method_47_code
def yJ2_indexOfChar_4cfef : MethodName := ⟨RJ2, "indexOfChar", "([BIII)I"⟩
abbrev cJ2_indexOfCharUnsafe_4cfef : ByteArray := prog_18_method_48_code
def yJ2_indexOfCharUnsafe_4cfef : MethodName := ⟨RJ2, "indexOfCharUnsafe", "([BIII)I"⟩
abbrev cJ2_indexOfSupplementary_4cfef : ByteArray := prog_18_method_49_code
def yJ2_indexOfSupplementary_4cfef : MethodName := ⟨RJ2, "indexOfSupplementary", "([BIII)I"⟩
abbrev cJ2_charAt_3b067 : ByteArray := prog_18_method_83_code
def yJ2_charAt_3b067 : MethodName := ⟨RJ2, "charAt", "([BI)C"⟩
abbrev cJ2_checkIndex_2214a : ByteArray := prog_18_method_91_code
def yJ2_checkIndex_2214a : MethodName := ⟨RJ2, "checkIndex", "(I[B)V"⟩
abbrev cJ2_checkBoundsBeginEnd_d044e : ByteArray := prog_18_method_93_code
def yJ2_checkBoundsBeginEnd_d044e : MethodName := ⟨RJ2, "checkBoundsBeginEnd", "(II[B)V"⟩
def RJ10 : String := "java/lang/System"
def TJ10 : u_T := fun k => match k with
  | _ => ("", "", "", false)
def tyJ10 : Nat → FieldType := fun k => match k with
  | _ => .int
abbrev wsJ100 : List Cond := u_ws RJ10 TJ10 0
theorem nmJ10 : ∀ a, a < 0 → ∀ b, b < 0 → a ≠ b → (TJ10 a).2.1 ≠ (TJ10 b).2.1 := by decide +kernel
theorem tyJ10_ok : ∀ k, k < 0 → parseFieldDescriptor (TJ10 k).2.2.1 = some (tyJ10 k) := by decide +kernel
def RJ3 : String := "jdk/internal/util/Preconditions"
def TJ3 : u_T := fun k => match k with
  | _ => ("", "", "", false)
def tyJ3 : Nat → FieldType := fun k => match k with
  | _ => .int
abbrev wsJ30 : List Cond := u_ws RJ3 TJ3 0
theorem nmJ3 : ∀ a, a < 0 → ∀ b, b < 0 → a ≠ b → (TJ3 a).2.1 ≠ (TJ3 b).2.1 := by decide +kernel
theorem tyJ3_ok : ∀ k, k < 0 → parseFieldDescriptor (TJ3 k).2.2.1 = some (tyJ3 k) := by decide +kernel
abbrev cJ3_checkIndex_8e157 : ByteArray := prog_20_method_11_code
def yJ3_checkIndex_8e157 : MethodName := ⟨RJ3, "checkIndex", "(IILjava/util/function/BiFunction;)I"⟩
abbrev cJ3_checkFromToIndex_8c36e : ByteArray := prog_20_method_12_code
def yJ3_checkFromToIndex_8c36e : MethodName := ⟨RJ3, "checkFromToIndex", "(IIILjava/util/function/BiFunction;)I"⟩
def RL : String := "WhatIfSheetLaw"
abbrev cL_law : ByteArray := code
def yL_law : MethodName := ⟨RL, "law", "([I)Z"⟩
abbrev vwCl : List vw_C := [(RX0, TX0, 5), (RX1, TX1, 9), (RX2, TX2, 4), (RX3, TX3, 8), (RX4, TX4, 6), (RX5, TX5, 8), (RX6, TX6, 4), (RX7, TX7, 10), (RX8, TX8, 8), (RX9, TX9, 9), (RX10, TX10, 76)]
