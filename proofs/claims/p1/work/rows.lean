section
-- ===== PART A: goes FIRST, ahead of the names: the tables' words, and 'selects' of the private methods out of them =====
/-- a private method of a class that the tables say can be made, by its rows of tables_1 -/
def lw_okq (q : MethodName × Nat) : Prop := (q.1.cls ≠ "java/lang/invoke/MethodHandle" ∧ q.1.cls ≠ "java/lang/invoke/VarHandle") ∧ Cond.instantiable q.1.cls q.2 ∈ tables_1 ∧ Cond.privateMethod q.1 ∈ tables_1 ∧ Cond.instanceMethod q.1 ∈ tables_1
theorem lw_p0 : lw_okq (⟨"LitmusHall", "feedWord", "(I)V"⟩, 12) := ⟨⟨by decide +kernel, by decide +kernel⟩, List.mem_of_getElem? (i := 20) (by decide +kernel), List.mem_of_getElem? (i := 269) (by decide +kernel), List.mem_of_getElem? (i := 270) (by decide +kernel)⟩
theorem lw_p1 : lw_okq (⟨"LitmusHall$Reader", "scan", "([BI)V"⟩, 12) := ⟨⟨by decide +kernel, by decide +kernel⟩, List.mem_of_getElem? (i := 28) (by decide +kernel), List.mem_of_getElem? (i := 285) (by decide +kernel), List.mem_of_getElem? (i := 286) (by decide +kernel)⟩
theorem lw_p2 : lw_okq (⟨"LitmusHall$Reader", "readCells", "()Z"⟩, 12) := ⟨⟨by decide +kernel, by decide +kernel⟩, List.mem_of_getElem? (i := 28) (by decide +kernel), List.mem_of_getElem? (i := 361) (by decide +kernel), List.mem_of_getElem? (i := 362) (by decide +kernel)⟩
theorem lw_p3 : lw_okq (⟨"LitmusHall$Reader", "readCellLine", "()Z"⟩, 12) := ⟨⟨by decide +kernel, by decide +kernel⟩, List.mem_of_getElem? (i := 28) (by decide +kernel), List.mem_of_getElem? (i := 365) (by decide +kernel), List.mem_of_getElem? (i := 366) (by decide +kernel)⟩
theorem lw_p4 : lw_okq (⟨"LitmusHall$Reader", "take", "(I)Z"⟩, 12) := ⟨⟨by decide +kernel, by decide +kernel⟩, List.mem_of_getElem? (i := 28) (by decide +kernel), List.mem_of_getElem? (i := 369) (by decide +kernel), List.mem_of_getElem? (i := 370) (by decide +kernel)⟩
theorem lw_p5 : lw_okq (⟨"LitmusHall$Reader", "fail", "(I)Z"⟩, 12) := ⟨⟨by decide +kernel, by decide +kernel⟩, List.mem_of_getElem? (i := 28) (by decide +kernel), List.mem_of_getElem? (i := 373) (by decide +kernel), List.mem_of_getElem? (i := 374) (by decide +kernel)⟩
theorem lw_p6 : lw_okq (⟨"LitmusHall$Reader", "takeCell", "()Z"⟩, 12) := ⟨⟨by decide +kernel, by decide +kernel⟩, List.mem_of_getElem? (i := 28) (by decide +kernel), List.mem_of_getElem? (i := 377) (by decide +kernel), List.mem_of_getElem? (i := 378) (by decide +kernel)⟩
theorem lw_p7 : lw_okq (⟨"LitmusHall$Reader", "noteLate", "(I)V"⟩, 12) := ⟨⟨by decide +kernel, by decide +kernel⟩, List.mem_of_getElem? (i := 28) (by decide +kernel), List.mem_of_getElem? (i := 381) (by decide +kernel), List.mem_of_getElem? (i := 382) (by decide +kernel)⟩
theorem lw_p8 : lw_okq (⟨"LitmusHall$Reader", "takeVal", "(Z)Z"⟩, 12) := ⟨⟨by decide +kernel, by decide +kernel⟩, List.mem_of_getElem? (i := 28) (by decide +kernel), List.mem_of_getElem? (i := 385) (by decide +kernel), List.mem_of_getElem? (i := 386) (by decide +kernel)⟩
theorem lw_p9 : lw_okq (⟨"LitmusHall$Reader", "readCores", "()Z"⟩, 12) := ⟨⟨by decide +kernel, by decide +kernel⟩, List.mem_of_getElem? (i := 28) (by decide +kernel), List.mem_of_getElem? (i := 389) (by decide +kernel), List.mem_of_getElem? (i := 390) (by decide +kernel)⟩
theorem lw_p10 : lw_okq (⟨"LitmusHall$Reader", "readIns", "(II)Z"⟩, 12) := ⟨⟨by decide +kernel, by decide +kernel⟩, List.mem_of_getElem? (i := 28) (by decide +kernel), List.mem_of_getElem? (i := 393) (by decide +kernel), List.mem_of_getElem? (i := 394) (by decide +kernel)⟩
theorem lw_p11 : lw_okq (⟨"LitmusHall$Reader", "readPart", "(IC)Z"⟩, 12) := ⟨⟨by decide +kernel, by decide +kernel⟩, List.mem_of_getElem? (i := 28) (by decide +kernel), List.mem_of_getElem? (i := 422) (by decide +kernel), List.mem_of_getElem? (i := 423) (by decide +kernel)⟩
theorem lw_p12 : lw_okq (⟨"LitmusHall$Reader", "takeReg", "()Z"⟩, 12) := ⟨⟨by decide +kernel, by decide +kernel⟩, List.mem_of_getElem? (i := 28) (by decide +kernel), List.mem_of_getElem? (i := 426) (by decide +kernel), List.mem_of_getElem? (i := 427) (by decide +kernel)⟩
theorem lw_p13 : lw_okq (⟨"LitmusHall$Reader", "takeSkip", "()Z"⟩, 12) := ⟨⟨by decide +kernel, by decide +kernel⟩, List.mem_of_getElem? (i := 28) (by decide +kernel), List.mem_of_getElem? (i := 430) (by decide +kernel), List.mem_of_getElem? (i := 431) (by decide +kernel)⟩
theorem lw_p14 : lw_okq (⟨"LitmusHall$Reader", "checkSkips", "(I)V"⟩, 12) := ⟨⟨by decide +kernel, by decide +kernel⟩, List.mem_of_getElem? (i := 28) (by decide +kernel), List.mem_of_getElem? (i := 434) (by decide +kernel), List.mem_of_getElem? (i := 435) (by decide +kernel)⟩
theorem lw_p15 : lw_okq (⟨"LitmusHall", "forgetFindings", "()V"⟩, 12) := ⟨⟨by decide +kernel, by decide +kernel⟩, List.mem_of_getElem? (i := 20) (by decide +kernel), List.mem_of_getElem? (i := 442) (by decide +kernel), List.mem_of_getElem? (i := 443) (by decide +kernel)⟩
def lw_privs_1 : List (MethodName × Nat) := [(⟨"LitmusHall", "feedWord", "(I)V"⟩, 12), (⟨"LitmusHall$Reader", "scan", "([BI)V"⟩, 12), (⟨"LitmusHall$Reader", "readCells", "()Z"⟩, 12), (⟨"LitmusHall$Reader", "readCellLine", "()Z"⟩, 12), (⟨"LitmusHall$Reader", "take", "(I)Z"⟩, 12), (⟨"LitmusHall$Reader", "fail", "(I)Z"⟩, 12), (⟨"LitmusHall$Reader", "takeCell", "()Z"⟩, 12), (⟨"LitmusHall$Reader", "noteLate", "(I)V"⟩, 12), (⟨"LitmusHall$Reader", "takeVal", "(Z)Z"⟩, 12), (⟨"LitmusHall$Reader", "readCores", "()Z"⟩, 12), (⟨"LitmusHall$Reader", "readIns", "(II)Z"⟩, 12), (⟨"LitmusHall$Reader", "readPart", "(IC)Z"⟩, 12), (⟨"LitmusHall$Reader", "takeReg", "()Z"⟩, 12), (⟨"LitmusHall$Reader", "takeSkip", "()Z"⟩, 12), (⟨"LitmusHall$Reader", "checkSkips", "(I)V"⟩, 12), (⟨"LitmusHall", "forgetFindings", "()V"⟩, 12)]
theorem lw_r1 : ∀ q ∈ lw_privs_1, lw_okq q := List.forall_mem_cons.mpr ⟨lw_p0, List.forall_mem_cons.mpr ⟨lw_p1, List.forall_mem_cons.mpr ⟨lw_p2, List.forall_mem_cons.mpr ⟨lw_p3, List.forall_mem_cons.mpr ⟨lw_p4, List.forall_mem_cons.mpr ⟨lw_p5, List.forall_mem_cons.mpr ⟨lw_p6, List.forall_mem_cons.mpr ⟨lw_p7, List.forall_mem_cons.mpr ⟨lw_p8, List.forall_mem_cons.mpr ⟨lw_p9, List.forall_mem_cons.mpr ⟨lw_p10, List.forall_mem_cons.mpr ⟨lw_p11, List.forall_mem_cons.mpr ⟨lw_p12, List.forall_mem_cons.mpr ⟨lw_p13, List.forall_mem_cons.mpr ⟨lw_p14, List.forall_mem_cons.mpr ⟨lw_p15, fun _ h => absurd h List.not_mem_nil⟩⟩⟩⟩⟩⟩⟩⟩⟩⟩⟩⟩⟩⟩⟩⟩
theorem lw_p16 : lw_okq (⟨"LitmusHall", "hasCore", "(I)Z"⟩, 12) := ⟨⟨by decide +kernel, by decide +kernel⟩, List.mem_of_getElem? (i := 20) (by decide +kernel), List.mem_of_getElem? (i := 458) (by decide +kernel), List.mem_of_getElem? (i := 459) (by decide +kernel)⟩
theorem lw_p17 : lw_okq (⟨"LitmusHall$State", "letGo", "(I)V"⟩, 1) := ⟨⟨by decide +kernel, by decide +kernel⟩, List.mem_of_getElem? (i := 114) (by decide +kernel), List.mem_of_getElem? (i := 513) (by decide +kernel), List.mem_of_getElem? (i := 514) (by decide +kernel)⟩
theorem lw_p18 : lw_okq (⟨"LitmusHall$State", "seen", "(II)I"⟩, 1) := ⟨⟨by decide +kernel, by decide +kernel⟩, List.mem_of_getElem? (i := 114) (by decide +kernel), List.mem_of_getElem? (i := 523) (by decide +kernel), List.mem_of_getElem? (i := 524) (by decide +kernel)⟩
theorem lw_p19 : lw_okq (⟨"LitmusHall$State", "valueOf", "([III)I"⟩, 1) := ⟨⟨by decide +kernel, by decide +kernel⟩, List.mem_of_getElem? (i := 114) (by decide +kernel), List.mem_of_getElem? (i := 531) (by decide +kernel), List.mem_of_getElem? (i := 532) (by decide +kernel)⟩
theorem lw_p20 : lw_okq (⟨"LitmusHall$State", "put", "(IIII)V"⟩, 1) := ⟨⟨by decide +kernel, by decide +kernel⟩, List.mem_of_getElem? (i := 114) (by decide +kernel), List.mem_of_getElem? (i := 535) (by decide +kernel), List.mem_of_getElem? (i := 536) (by decide +kernel)⟩
theorem lw_p21 : lw_okq (⟨"LitmusHall$State", "forgetStored", "(I)V"⟩, 1) := ⟨⟨by decide +kernel, by decide +kernel⟩, List.mem_of_getElem? (i := 114) (by decide +kernel), List.mem_of_getElem? (i := 539) (by decide +kernel), List.mem_of_getElem? (i := 540) (by decide +kernel)⟩
theorem lw_p22 : lw_okq (⟨"LitmusHall$State", "lock", "([III)V"⟩, 1) := ⟨⟨by decide +kernel, by decide +kernel⟩, List.mem_of_getElem? (i := 114) (by decide +kernel), List.mem_of_getElem? (i := 544) (by decide +kernel), List.mem_of_getElem? (i := 545) (by decide +kernel)⟩
theorem lw_p23 : lw_okq (⟨"LitmusHall", "found", "(I)LLitmusHall$Findings;"⟩, 12) := ⟨⟨by decide +kernel, by decide +kernel⟩, List.mem_of_getElem? (i := 20) (by decide +kernel), List.mem_of_getElem? (i := 580) (by decide +kernel), List.mem_of_getElem? (i := 581) (by decide +kernel)⟩
theorem lw_p24 : lw_okq (⟨"LitmusHall", "explorerAtHand", "()LLitmusHall$Explorer;"⟩, 12) := ⟨⟨by decide +kernel, by decide +kernel⟩, List.mem_of_getElem? (i := 20) (by decide +kernel), List.mem_of_getElem? (i := 584) (by decide +kernel), List.mem_of_getElem? (i := 585) (by decide +kernel)⟩
theorem lw_p25 : lw_okq (⟨"LitmusHall$Explorer", "keep", "([II)Z"⟩, 10) := ⟨⟨by decide +kernel, by decide +kernel⟩, List.mem_of_getElem? (i := 588) (by decide +kernel), List.mem_of_getElem? (i := 643) (by decide +kernel), List.mem_of_getElem? (i := 644) (by decide +kernel)⟩
theorem lw_p26 : lw_okq (⟨"LitmusHall$Explorer", "hashOf", "([I)I"⟩, 10) := ⟨⟨by decide +kernel, by decide +kernel⟩, List.mem_of_getElem? (i := 588) (by decide +kernel), List.mem_of_getElem? (i := 647) (by decide +kernel), List.mem_of_getElem? (i := 648) (by decide +kernel)⟩
theorem lw_p27 : lw_okq (⟨"LitmusHall$Explorer", "add", "([IIII)Z"⟩, 10) := ⟨⟨by decide +kernel, by decide +kernel⟩, List.mem_of_getElem? (i := 588) (by decide +kernel), List.mem_of_getElem? (i := 652) (by decide +kernel), List.mem_of_getElem? (i := 653) (by decide +kernel)⟩
theorem lw_p28 : lw_okq (⟨"LitmusHall$Explorer", "isSame", "(I[I)Z"⟩, 10) := ⟨⟨by decide +kernel, by decide +kernel⟩, List.mem_of_getElem? (i := 588) (by decide +kernel), List.mem_of_getElem? (i := 673) (by decide +kernel), List.mem_of_getElem? (i := 674) (by decide +kernel)⟩
theorem lw_p29 : lw_okq (⟨"LitmusHall$Explorer", "addEnd", "(I)V"⟩, 10) := ⟨⟨by decide +kernel, by decide +kernel⟩, List.mem_of_getElem? (i := 588) (by decide +kernel), List.mem_of_getElem? (i := 685) (by decide +kernel), List.mem_of_getElem? (i := 686) (by decide +kernel)⟩
theorem lw_p30 : lw_okq (⟨"LitmusHall$Explorer", "isBefore", "(II)Z"⟩, 10) := ⟨⟨by decide +kernel, by decide +kernel⟩, List.mem_of_getElem? (i := 588) (by decide +kernel), List.mem_of_getElem? (i := 689) (by decide +kernel), List.mem_of_getElem? (i := 690) (by decide +kernel)⟩
theorem lw_p31 : lw_okq (⟨"LitmusHall$Findings", "record", "(LLitmusHall$Explorer;I)V"⟩, 5) := ⟨⟨by decide +kernel, by decide +kernel⟩, List.mem_of_getElem? (i := 145) (by decide +kernel), List.mem_of_getElem? (i := 700) (by decide +kernel), List.mem_of_getElem? (i := 701) (by decide +kernel)⟩
def lw_privs_2 : List (MethodName × Nat) := [(⟨"LitmusHall", "hasCore", "(I)Z"⟩, 12), (⟨"LitmusHall$State", "letGo", "(I)V"⟩, 1), (⟨"LitmusHall$State", "seen", "(II)I"⟩, 1), (⟨"LitmusHall$State", "valueOf", "([III)I"⟩, 1), (⟨"LitmusHall$State", "put", "(IIII)V"⟩, 1), (⟨"LitmusHall$State", "forgetStored", "(I)V"⟩, 1), (⟨"LitmusHall$State", "lock", "([III)V"⟩, 1), (⟨"LitmusHall", "found", "(I)LLitmusHall$Findings;"⟩, 12), (⟨"LitmusHall", "explorerAtHand", "()LLitmusHall$Explorer;"⟩, 12), (⟨"LitmusHall$Explorer", "keep", "([II)Z"⟩, 10), (⟨"LitmusHall$Explorer", "hashOf", "([I)I"⟩, 10), (⟨"LitmusHall$Explorer", "add", "([IIII)Z"⟩, 10), (⟨"LitmusHall$Explorer", "isSame", "(I[I)Z"⟩, 10), (⟨"LitmusHall$Explorer", "addEnd", "(I)V"⟩, 10), (⟨"LitmusHall$Explorer", "isBefore", "(II)Z"⟩, 10), (⟨"LitmusHall$Findings", "record", "(LLitmusHall$Explorer;I)V"⟩, 5)]
theorem lw_r2 : ∀ q ∈ lw_privs_2, lw_okq q := List.forall_mem_cons.mpr ⟨lw_p16, List.forall_mem_cons.mpr ⟨lw_p17, List.forall_mem_cons.mpr ⟨lw_p18, List.forall_mem_cons.mpr ⟨lw_p19, List.forall_mem_cons.mpr ⟨lw_p20, List.forall_mem_cons.mpr ⟨lw_p21, List.forall_mem_cons.mpr ⟨lw_p22, List.forall_mem_cons.mpr ⟨lw_p23, List.forall_mem_cons.mpr ⟨lw_p24, List.forall_mem_cons.mpr ⟨lw_p25, List.forall_mem_cons.mpr ⟨lw_p26, List.forall_mem_cons.mpr ⟨lw_p27, List.forall_mem_cons.mpr ⟨lw_p28, List.forall_mem_cons.mpr ⟨lw_p29, List.forall_mem_cons.mpr ⟨lw_p30, List.forall_mem_cons.mpr ⟨lw_p31, fun _ h => absurd h List.not_mem_nil⟩⟩⟩⟩⟩⟩⟩⟩⟩⟩⟩⟩⟩⟩⟩⟩
theorem lw_p32 : lw_okq (⟨"LitmusHall$Findings", "compare", "(ILLitmusHall$Findings;I)I"⟩, 5) := ⟨⟨by decide +kernel, by decide +kernel⟩, List.mem_of_getElem? (i := 145) (by decide +kernel), List.mem_of_getElem? (i := 746) (by decide +kernel), List.mem_of_getElem? (i := 747) (by decide +kernel)⟩
theorem lw_p33 : lw_okq (⟨"LitmusHall", "findRace", "()V"⟩, 12) := ⟨⟨by decide +kernel, by decide +kernel⟩, List.mem_of_getElem? (i := 20) (by decide +kernel), List.mem_of_getElem? (i := 758) (by decide +kernel), List.mem_of_getElem? (i := 759) (by decide +kernel)⟩
theorem lw_p34 : lw_okq (⟨"LitmusHall$Race", "isRace", "(LLitmusHall$Program;LLitmusHall$State;)Z"⟩, 7) := ⟨⟨by decide +kernel, by decide +kernel⟩, List.mem_of_getElem? (i := 171) (by decide +kernel), List.mem_of_getElem? (i := 768) (by decide +kernel), List.mem_of_getElem? (i := 769) (by decide +kernel)⟩
theorem lw_p35 : lw_okq (⟨"LitmusHall$Cure", "lookAtSize", "(LLitmusHall$Program;LLitmusHall$Findings;LLitmusHall$Explorer;I)I"⟩, 6) := ⟨⟨by decide +kernel, by decide +kernel⟩, List.mem_of_getElem? (i := 201) (by decide +kernel), List.mem_of_getElem? (i := 803) (by decide +kernel), List.mem_of_getElem? (i := 804) (by decide +kernel)⟩
theorem lw_p36 : lw_okq (⟨"LitmusHall$Program", "copyIns", "(LLitmusHall$Program;III)V"⟩, 4) := ⟨⟨by decide +kernel, by decide +kernel⟩, List.mem_of_getElem? (i := 34) (by decide +kernel), List.mem_of_getElem? (i := 833) (by decide +kernel), List.mem_of_getElem? (i := 834) (by decide +kernel)⟩
theorem lw_p37 : lw_okq (⟨"LitmusHall", "countOfProgram", "(I)I"⟩, 12) := ⟨⟨by decide +kernel, by decide +kernel⟩, List.mem_of_getElem? (i := 20) (by decide +kernel), List.mem_of_getElem? (i := 855) (by decide +kernel), List.mem_of_getElem? (i := 856) (by decide +kernel)⟩
theorem lw_p38 : lw_okq (⟨"LitmusHallModel", "byteRow", "(I)V"⟩, 52) := ⟨⟨by decide +kernel, by decide +kernel⟩, List.mem_of_getElem? (i := 873) (by decide +kernel), List.mem_of_getElem? (i := 1042) (by decide +kernel), List.mem_of_getElem? (i := 1043) (by decide +kernel)⟩
theorem lw_p39 : lw_okq (⟨"LitmusHallModel", "token", "()V"⟩, 52) := ⟨⟨by decide +kernel, by decide +kernel⟩, List.mem_of_getElem? (i := 873) (by decide +kernel), List.mem_of_getElem? (i := 1054) (by decide +kernel), List.mem_of_getElem? (i := 1055) (by decide +kernel)⟩
theorem lw_p40 : lw_okq (⟨"LitmusHallModel", "seen", "(I)I"⟩, 52) := ⟨⟨by decide +kernel, by decide +kernel⟩, List.mem_of_getElem? (i := 873) (by decide +kernel), List.mem_of_getElem? (i := 1058) (by decide +kernel), List.mem_of_getElem? (i := 1059) (by decide +kernel)⟩
theorem lw_p41 : lw_okq (⟨"LitmusHallModel", "isLetter", "(I)Z"⟩, 52) := ⟨⟨by decide +kernel, by decide +kernel⟩, List.mem_of_getElem? (i := 873) (by decide +kernel), List.mem_of_getElem? (i := 1062) (by decide +kernel), List.mem_of_getElem? (i := 1063) (by decide +kernel)⟩
theorem lw_p42 : lw_okq (⟨"LitmusHallModel", "isDigit", "(I)Z"⟩, 52) := ⟨⟨by decide +kernel, by decide +kernel⟩, List.mem_of_getElem? (i := 873) (by decide +kernel), List.mem_of_getElem? (i := 1066) (by decide +kernel), List.mem_of_getElem? (i := 1067) (by decide +kernel)⟩
theorem lw_p43 : lw_okq (⟨"LitmusHallModel", "text", "()Z"⟩, 52) := ⟨⟨by decide +kernel, by decide +kernel⟩, List.mem_of_getElem? (i := 873) (by decide +kernel), List.mem_of_getElem? (i := 1070) (by decide +kernel), List.mem_of_getElem? (i := 1071) (by decide +kernel)⟩
theorem lw_p44 : lw_okq (⟨"LitmusHallModel", "isWord", "(J)Z"⟩, 52) := ⟨⟨by decide +kernel, by decide +kernel⟩, List.mem_of_getElem? (i := 873) (by decide +kernel), List.mem_of_getElem? (i := 1075) (by decide +kernel), List.mem_of_getElem? (i := 1076) (by decide +kernel)⟩
theorem lw_p45 : lw_okq (⟨"LitmusHallModel", "pass", "()Z"⟩, 52) := ⟨⟨by decide +kernel, by decide +kernel⟩, List.mem_of_getElem? (i := 873) (by decide +kernel), List.mem_of_getElem? (i := 1079) (by decide +kernel), List.mem_of_getElem? (i := 1080) (by decide +kernel)⟩
theorem lw_p46 : lw_okq (⟨"LitmusHallModel", "stop", "(II)Z"⟩, 52) := ⟨⟨by decide +kernel, by decide +kernel⟩, List.mem_of_getElem? (i := 873) (by decide +kernel), List.mem_of_getElem? (i := 1083) (by decide +kernel), List.mem_of_getElem? (i := 1084) (by decide +kernel)⟩
theorem lw_p47 : lw_okq (⟨"LitmusHallModel", "cell", "()Z"⟩, 52) := ⟨⟨by decide +kernel, by decide +kernel⟩, List.mem_of_getElem? (i := 873) (by decide +kernel), List.mem_of_getElem? (i := 1087) (by decide +kernel), List.mem_of_getElem? (i := 1088) (by decide +kernel)⟩
def lw_privs_3 : List (MethodName × Nat) := [(⟨"LitmusHall$Findings", "compare", "(ILLitmusHall$Findings;I)I"⟩, 5), (⟨"LitmusHall", "findRace", "()V"⟩, 12), (⟨"LitmusHall$Race", "isRace", "(LLitmusHall$Program;LLitmusHall$State;)Z"⟩, 7), (⟨"LitmusHall$Cure", "lookAtSize", "(LLitmusHall$Program;LLitmusHall$Findings;LLitmusHall$Explorer;I)I"⟩, 6), (⟨"LitmusHall$Program", "copyIns", "(LLitmusHall$Program;III)V"⟩, 4), (⟨"LitmusHall", "countOfProgram", "(I)I"⟩, 12), (⟨"LitmusHallModel", "byteRow", "(I)V"⟩, 52), (⟨"LitmusHallModel", "token", "()V"⟩, 52), (⟨"LitmusHallModel", "seen", "(I)I"⟩, 52), (⟨"LitmusHallModel", "isLetter", "(I)Z"⟩, 52), (⟨"LitmusHallModel", "isDigit", "(I)Z"⟩, 52), (⟨"LitmusHallModel", "text", "()Z"⟩, 52), (⟨"LitmusHallModel", "isWord", "(J)Z"⟩, 52), (⟨"LitmusHallModel", "pass", "()Z"⟩, 52), (⟨"LitmusHallModel", "stop", "(II)Z"⟩, 52), (⟨"LitmusHallModel", "cell", "()Z"⟩, 52)]
theorem lw_r3 : ∀ q ∈ lw_privs_3, lw_okq q := List.forall_mem_cons.mpr ⟨lw_p32, List.forall_mem_cons.mpr ⟨lw_p33, List.forall_mem_cons.mpr ⟨lw_p34, List.forall_mem_cons.mpr ⟨lw_p35, List.forall_mem_cons.mpr ⟨lw_p36, List.forall_mem_cons.mpr ⟨lw_p37, List.forall_mem_cons.mpr ⟨lw_p38, List.forall_mem_cons.mpr ⟨lw_p39, List.forall_mem_cons.mpr ⟨lw_p40, List.forall_mem_cons.mpr ⟨lw_p41, List.forall_mem_cons.mpr ⟨lw_p42, List.forall_mem_cons.mpr ⟨lw_p43, List.forall_mem_cons.mpr ⟨lw_p44, List.forall_mem_cons.mpr ⟨lw_p45, List.forall_mem_cons.mpr ⟨lw_p46, List.forall_mem_cons.mpr ⟨lw_p47, fun _ h => absurd h List.not_mem_nil⟩⟩⟩⟩⟩⟩⟩⟩⟩⟩⟩⟩⟩⟩⟩⟩
theorem lw_p48 : lw_okq (⟨"LitmusHallModel", "whole", "()Z"⟩, 52) := ⟨⟨by decide +kernel, by decide +kernel⟩, List.mem_of_getElem? (i := 873) (by decide +kernel), List.mem_of_getElem? (i := 1091) (by decide +kernel), List.mem_of_getElem? (i := 1092) (by decide +kernel)⟩
theorem lw_p49 : lw_okq (⟨"LitmusHallModel", "tell", "(I)V"⟩, 52) := ⟨⟨by decide +kernel, by decide +kernel⟩, List.mem_of_getElem? (i := 873) (by decide +kernel), List.mem_of_getElem? (i := 1095) (by decide +kernel), List.mem_of_getElem? (i := 1096) (by decide +kernel)⟩
theorem lw_p50 : lw_okq (⟨"LitmusHallModel", "sign", "(I)Z"⟩, 52) := ⟨⟨by decide +kernel, by decide +kernel⟩, List.mem_of_getElem? (i := 873) (by decide +kernel), List.mem_of_getElem? (i := 1099) (by decide +kernel), List.mem_of_getElem? (i := 1100) (by decide +kernel)⟩
theorem lw_p51 : lw_okq (⟨"LitmusHallModel", "integer", "()Z"⟩, 52) := ⟨⟨by decide +kernel, by decide +kernel⟩, List.mem_of_getElem? (i := 873) (by decide +kernel), List.mem_of_getElem? (i := 1103) (by decide +kernel), List.mem_of_getElem? (i := 1104) (by decide +kernel)⟩
theorem lw_p52 : lw_okq (⟨"LitmusHallModel", "core", "()Z"⟩, 52) := ⟨⟨by decide +kernel, by decide +kernel⟩, List.mem_of_getElem? (i := 873) (by decide +kernel), List.mem_of_getElem? (i := 1109) (by decide +kernel), List.mem_of_getElem? (i := 1110) (by decide +kernel)⟩
theorem lw_p53 : lw_okq (⟨"LitmusHallModel", "instruction", "(I)Z"⟩, 52) := ⟨⟨by decide +kernel, by decide +kernel⟩, List.mem_of_getElem? (i := 873) (by decide +kernel), List.mem_of_getElem? (i := 1125) (by decide +kernel), List.mem_of_getElem? (i := 1126) (by decide +kernel)⟩
theorem lw_p54 : lw_okq (⟨"LitmusHallModel", "value", "(Z)Z"⟩, 52) := ⟨⟨by decide +kernel, by decide +kernel⟩, List.mem_of_getElem? (i := 873) (by decide +kernel), List.mem_of_getElem? (i := 1129) (by decide +kernel), List.mem_of_getElem? (i := 1130) (by decide +kernel)⟩
theorem lw_p55 : lw_okq (⟨"LitmusHallModel", "isRegister", "()Z"⟩, 52) := ⟨⟨by decide +kernel, by decide +kernel⟩, List.mem_of_getElem? (i := 873) (by decide +kernel), List.mem_of_getElem? (i := 1133) (by decide +kernel), List.mem_of_getElem? (i := 1134) (by decide +kernel)⟩
theorem lw_p56 : lw_okq (⟨"LitmusHallModel", "register", "()Z"⟩, 52) := ⟨⟨by decide +kernel, by decide +kernel⟩, List.mem_of_getElem? (i := 873) (by decide +kernel), List.mem_of_getElem? (i := 1139) (by decide +kernel), List.mem_of_getElem? (i := 1140) (by decide +kernel)⟩
theorem lw_p57 : lw_okq (⟨"LitmusHallModel", "words", "(J)Z"⟩, 52) := ⟨⟨by decide +kernel, by decide +kernel⟩, List.mem_of_getElem? (i := 873) (by decide +kernel), List.mem_of_getElem? (i := 1144) (by decide +kernel), List.mem_of_getElem? (i := 1145) (by decide +kernel)⟩
theorem lw_p58 : lw_okq (⟨"LitmusHallModel", "copyProgram", "(II)V"⟩, 52) := ⟨⟨by decide +kernel, by decide +kernel⟩, List.mem_of_getElem? (i := 873) (by decide +kernel), List.mem_of_getElem? (i := 1149) (by decide +kernel), List.mem_of_getElem? (i := 1150) (by decide +kernel)⟩
theorem lw_p59 : lw_okq (⟨"LitmusHallModel", "copyIns", "(II)V"⟩, 52) := ⟨⟨by decide +kernel, by decide +kernel⟩, List.mem_of_getElem? (i := 873) (by decide +kernel), List.mem_of_getElem? (i := 1153) (by decide +kernel), List.mem_of_getElem? (i := 1154) (by decide +kernel)⟩
theorem lw_p60 : lw_okq (⟨"LitmusHallModel", "first", "()V"⟩, 52) := ⟨⟨by decide +kernel, by decide +kernel⟩, List.mem_of_getElem? (i := 873) (by decide +kernel), List.mem_of_getElem? (i := 1169) (by decide +kernel), List.mem_of_getElem? (i := 1170) (by decide +kernel)⟩
theorem lw_p61 : lw_okq (⟨"LitmusHallModel", "keepMachine", "()V"⟩, 52) := ⟨⟨by decide +kernel, by decide +kernel⟩, List.mem_of_getElem? (i := 873) (by decide +kernel), List.mem_of_getElem? (i := 1173) (by decide +kernel), List.mem_of_getElem? (i := 1174) (by decide +kernel)⟩
theorem lw_p62 : lw_okq (⟨"LitmusHallModel", "takeMachine", "()V"⟩, 52) := ⟨⟨by decide +kernel, by decide +kernel⟩, List.mem_of_getElem? (i := 873) (by decide +kernel), List.mem_of_getElem? (i := 1181) (by decide +kernel), List.mem_of_getElem? (i := 1182) (by decide +kernel)⟩
theorem lw_p63 : lw_okq (⟨"LitmusHallModel", "can", "(III)Z"⟩, 52) := ⟨⟨by decide +kernel, by decide +kernel⟩, List.mem_of_getElem? (i := 873) (by decide +kernel), List.mem_of_getElem? (i := 1185) (by decide +kernel), List.mem_of_getElem? (i := 1186) (by decide +kernel)⟩
def lw_privs_4 : List (MethodName × Nat) := [(⟨"LitmusHallModel", "whole", "()Z"⟩, 52), (⟨"LitmusHallModel", "tell", "(I)V"⟩, 52), (⟨"LitmusHallModel", "sign", "(I)Z"⟩, 52), (⟨"LitmusHallModel", "integer", "()Z"⟩, 52), (⟨"LitmusHallModel", "core", "()Z"⟩, 52), (⟨"LitmusHallModel", "instruction", "(I)Z"⟩, 52), (⟨"LitmusHallModel", "value", "(Z)Z"⟩, 52), (⟨"LitmusHallModel", "isRegister", "()Z"⟩, 52), (⟨"LitmusHallModel", "register", "()Z"⟩, 52), (⟨"LitmusHallModel", "words", "(J)Z"⟩, 52), (⟨"LitmusHallModel", "copyProgram", "(II)V"⟩, 52), (⟨"LitmusHallModel", "copyIns", "(II)V"⟩, 52), (⟨"LitmusHallModel", "first", "()V"⟩, 52), (⟨"LitmusHallModel", "keepMachine", "()V"⟩, 52), (⟨"LitmusHallModel", "takeMachine", "()V"⟩, 52), (⟨"LitmusHallModel", "can", "(III)Z"⟩, 52)]
theorem lw_r4 : ∀ q ∈ lw_privs_4, lw_okq q := List.forall_mem_cons.mpr ⟨lw_p48, List.forall_mem_cons.mpr ⟨lw_p49, List.forall_mem_cons.mpr ⟨lw_p50, List.forall_mem_cons.mpr ⟨lw_p51, List.forall_mem_cons.mpr ⟨lw_p52, List.forall_mem_cons.mpr ⟨lw_p53, List.forall_mem_cons.mpr ⟨lw_p54, List.forall_mem_cons.mpr ⟨lw_p55, List.forall_mem_cons.mpr ⟨lw_p56, List.forall_mem_cons.mpr ⟨lw_p57, List.forall_mem_cons.mpr ⟨lw_p58, List.forall_mem_cons.mpr ⟨lw_p59, List.forall_mem_cons.mpr ⟨lw_p60, List.forall_mem_cons.mpr ⟨lw_p61, List.forall_mem_cons.mpr ⟨lw_p62, List.forall_mem_cons.mpr ⟨lw_p63, fun _ h => absurd h List.not_mem_nil⟩⟩⟩⟩⟩⟩⟩⟩⟩⟩⟩⟩⟩⟩⟩⟩
theorem lw_p64 : lw_okq (⟨"LitmusHallModel", "does", "(IIIZ)V"⟩, 52) := ⟨⟨by decide +kernel, by decide +kernel⟩, List.mem_of_getElem? (i := 873) (by decide +kernel), List.mem_of_getElem? (i := 1192) (by decide +kernel), List.mem_of_getElem? (i := 1193) (by decide +kernel)⟩
theorem lw_p65 : lw_okq (⟨"LitmusHallModel", "goes", "(I)V"⟩, 52) := ⟨⟨by decide +kernel, by decide +kernel⟩, List.mem_of_getElem? (i := 873) (by decide +kernel), List.mem_of_getElem? (i := 1196) (by decide +kernel), List.mem_of_getElem? (i := 1197) (by decide +kernel)⟩
theorem lw_p66 : lw_okq (⟨"LitmusHallModel", "taken", "(III)I"⟩, 52) := ⟨⟨by decide +kernel, by decide +kernel⟩, List.mem_of_getElem? (i := 873) (by decide +kernel), List.mem_of_getElem? (i := 1200) (by decide +kernel), List.mem_of_getElem? (i := 1201) (by decide +kernel)⟩
theorem lw_p67 : lw_okq (⟨"LitmusHallModel", "loaded", "(II)I"⟩, 52) := ⟨⟨by decide +kernel, by decide +kernel⟩, List.mem_of_getElem? (i := 873) (by decide +kernel), List.mem_of_getElem? (i := 1204) (by decide +kernel), List.mem_of_getElem? (i := 1205) (by decide +kernel)⟩
theorem lw_p68 : lw_okq (⟨"LitmusHallModel", "put", "(IIII)V"⟩, 52) := ⟨⟨by decide +kernel, by decide +kernel⟩, List.mem_of_getElem? (i := 873) (by decide +kernel), List.mem_of_getElem? (i := 1208) (by decide +kernel), List.mem_of_getElem? (i := 1209) (by decide +kernel)⟩
theorem lw_p69 : lw_okq (⟨"LitmusHallModel", "locked", "(IIIII)V"⟩, 52) := ⟨⟨by decide +kernel, by decide +kernel⟩, List.mem_of_getElem? (i := 873) (by decide +kernel), List.mem_of_getElem? (i := 1212) (by decide +kernel), List.mem_of_getElem? (i := 1213) (by decide +kernel)⟩
theorem lw_p70 : lw_okq (⟨"LitmusHallModel", "isCore", "(I)Z"⟩, 52) := ⟨⟨by decide +kernel, by decide +kernel⟩, List.mem_of_getElem? (i := 873) (by decide +kernel), List.mem_of_getElem? (i := 1224) (by decide +kernel), List.mem_of_getElem? (i := 1225) (by decide +kernel)⟩
theorem lw_p71 : lw_okq (⟨"LitmusHallModel", "explored", "(I)Z"⟩, 52) := ⟨⟨by decide +kernel, by decide +kernel⟩, List.mem_of_getElem? (i := 873) (by decide +kernel), List.mem_of_getElem? (i := 1244) (by decide +kernel), List.mem_of_getElem? (i := 1245) (by decide +kernel)⟩
theorem lw_p72 : lw_okq (⟨"LitmusHallModel", "explore", "(IIIZ)V"⟩, 52) := ⟨⟨by decide +kernel, by decide +kernel⟩, List.mem_of_getElem? (i := 873) (by decide +kernel), List.mem_of_getElem? (i := 1248) (by decide +kernel), List.mem_of_getElem? (i := 1249) (by decide +kernel)⟩
theorem lw_p73 : lw_okq (⟨"LitmusHallModel", "comes", "(III)Z"⟩, 52) := ⟨⟨by decide +kernel, by decide +kernel⟩, List.mem_of_getElem? (i := 873) (by decide +kernel), List.mem_of_getElem? (i := 1252) (by decide +kernel), List.mem_of_getElem? (i := 1253) (by decide +kernel)⟩
theorem lw_p74 : lw_okq (⟨"LitmusHallModel", "isNow", "(II)Z"⟩, 52) := ⟨⟨by decide +kernel, by decide +kernel⟩, List.mem_of_getElem? (i := 873) (by decide +kernel), List.mem_of_getElem? (i := 1261) (by decide +kernel), List.mem_of_getElem? (i := 1262) (by decide +kernel)⟩
theorem lw_p75 : lw_okq (⟨"LitmusHallModel", "at", "(II)V"⟩, 52) := ⟨⟨by decide +kernel, by decide +kernel⟩, List.mem_of_getElem? (i := 873) (by decide +kernel), List.mem_of_getElem? (i := 1265) (by decide +kernel), List.mem_of_getElem? (i := 1266) (by decide +kernel)⟩
theorem lw_p76 : lw_okq (⟨"LitmusHallModel", "isEnd", "(I[II)Z"⟩, 52) := ⟨⟨by decide +kernel, by decide +kernel⟩, List.mem_of_getElem? (i := 873) (by decide +kernel), List.mem_of_getElem? (i := 1269) (by decide +kernel), List.mem_of_getElem? (i := 1270) (by decide +kernel)⟩
theorem lw_p77 : lw_okq (⟨"LitmusHallModel", "sortEnds", "(I)V"⟩, 52) := ⟨⟨by decide +kernel, by decide +kernel⟩, List.mem_of_getElem? (i := 873) (by decide +kernel), List.mem_of_getElem? (i := 1273) (by decide +kernel), List.mem_of_getElem? (i := 1274) (by decide +kernel)⟩
theorem lw_p78 : lw_okq (⟨"LitmusHallModel", "sink", "(III)V"⟩, 52) := ⟨⟨by decide +kernel, by decide +kernel⟩, List.mem_of_getElem? (i := 873) (by decide +kernel), List.mem_of_getElem? (i := 1277) (by decide +kernel), List.mem_of_getElem? (i := 1278) (by decide +kernel)⟩
theorem lw_p79 : lw_okq (⟨"LitmusHallModel", "compare", "(IIII)I"⟩, 52) := ⟨⟨by decide +kernel, by decide +kernel⟩, List.mem_of_getElem? (i := 873) (by decide +kernel), List.mem_of_getElem? (i := 1281) (by decide +kernel), List.mem_of_getElem? (i := 1282) (by decide +kernel)⟩
def lw_privs_5 : List (MethodName × Nat) := [(⟨"LitmusHallModel", "does", "(IIIZ)V"⟩, 52), (⟨"LitmusHallModel", "goes", "(I)V"⟩, 52), (⟨"LitmusHallModel", "taken", "(III)I"⟩, 52), (⟨"LitmusHallModel", "loaded", "(II)I"⟩, 52), (⟨"LitmusHallModel", "put", "(IIII)V"⟩, 52), (⟨"LitmusHallModel", "locked", "(IIIII)V"⟩, 52), (⟨"LitmusHallModel", "isCore", "(I)Z"⟩, 52), (⟨"LitmusHallModel", "explored", "(I)Z"⟩, 52), (⟨"LitmusHallModel", "explore", "(IIIZ)V"⟩, 52), (⟨"LitmusHallModel", "comes", "(III)Z"⟩, 52), (⟨"LitmusHallModel", "isNow", "(II)Z"⟩, 52), (⟨"LitmusHallModel", "at", "(II)V"⟩, 52), (⟨"LitmusHallModel", "isEnd", "(I[II)Z"⟩, 52), (⟨"LitmusHallModel", "sortEnds", "(I)V"⟩, 52), (⟨"LitmusHallModel", "sink", "(III)V"⟩, 52), (⟨"LitmusHallModel", "compare", "(IIII)I"⟩, 52)]
theorem lw_r5 : ∀ q ∈ lw_privs_5, lw_okq q := List.forall_mem_cons.mpr ⟨lw_p64, List.forall_mem_cons.mpr ⟨lw_p65, List.forall_mem_cons.mpr ⟨lw_p66, List.forall_mem_cons.mpr ⟨lw_p67, List.forall_mem_cons.mpr ⟨lw_p68, List.forall_mem_cons.mpr ⟨lw_p69, List.forall_mem_cons.mpr ⟨lw_p70, List.forall_mem_cons.mpr ⟨lw_p71, List.forall_mem_cons.mpr ⟨lw_p72, List.forall_mem_cons.mpr ⟨lw_p73, List.forall_mem_cons.mpr ⟨lw_p74, List.forall_mem_cons.mpr ⟨lw_p75, List.forall_mem_cons.mpr ⟨lw_p76, List.forall_mem_cons.mpr ⟨lw_p77, List.forall_mem_cons.mpr ⟨lw_p78, List.forall_mem_cons.mpr ⟨lw_p79, fun _ h => absurd h List.not_mem_nil⟩⟩⟩⟩⟩⟩⟩⟩⟩⟩⟩⟩⟩⟩⟩⟩
theorem lw_p80 : lw_okq (⟨"LitmusHallModel", "told", "(III)I"⟩, 52) := ⟨⟨by decide +kernel, by decide +kernel⟩, List.mem_of_getElem? (i := 873) (by decide +kernel), List.mem_of_getElem? (i := 1285) (by decide +kernel), List.mem_of_getElem? (i := 1286) (by decide +kernel)⟩
theorem lw_p81 : lw_okq (⟨"LitmusHallModel", "isOutcome", "(II)Z"⟩, 52) := ⟨⟨by decide +kernel, by decide +kernel⟩, List.mem_of_getElem? (i := 873) (by decide +kernel), List.mem_of_getElem? (i := 1293) (by decide +kernel), List.mem_of_getElem? (i := 1294) (by decide +kernel)⟩
theorem lw_p82 : lw_okq (⟨"LitmusHallModel", "stepOf", "(III)I"⟩, 52) := ⟨⟨by decide +kernel, by decide +kernel⟩, List.mem_of_getElem? (i := 873) (by decide +kernel), List.mem_of_getElem? (i := 1301) (by decide +kernel), List.mem_of_getElem? (i := 1302) (by decide +kernel)⟩
theorem lw_p83 : lw_okq (⟨"LitmusHallModel", "isWithout", "(I)Z"⟩, 52) := ⟨⟨by decide +kernel, by decide +kernel⟩, List.mem_of_getElem? (i := 873) (by decide +kernel), List.mem_of_getElem? (i := 1309) (by decide +kernel), List.mem_of_getElem? (i := 1310) (by decide +kernel)⟩
theorem lw_p84 : lw_okq (⟨"LitmusHallModel", "isRace", "(I)Z"⟩, 52) := ⟨⟨by decide +kernel, by decide +kernel⟩, List.mem_of_getElem? (i := 873) (by decide +kernel), List.mem_of_getElem? (i := 1317) (by decide +kernel), List.mem_of_getElem? (i := 1318) (by decide +kernel)⟩
theorem lw_p85 : lw_okq (⟨"LitmusHallModel", "nextOf", "(II)I"⟩, 52) := ⟨⟨by decide +kernel, by decide +kernel⟩, List.mem_of_getElem? (i := 873) (by decide +kernel), List.mem_of_getElem? (i := 1321) (by decide +kernel), List.mem_of_getElem? (i := 1322) (by decide +kernel)⟩
theorem lw_p86 : lw_okq (⟨"LitmusHallModel", "findSpots", "()V"⟩, 52) := ⟨⟨by decide +kernel, by decide +kernel⟩, List.mem_of_getElem? (i := 873) (by decide +kernel), List.mem_of_getElem? (i := 1334) (by decide +kernel), List.mem_of_getElem? (i := 1335) (by decide +kernel)⟩
theorem lw_p87 : lw_okq (⟨"LitmusHallModel", "cures", "(II)I"⟩, 52) := ⟨⟨by decide +kernel, by decide +kernel⟩, List.mem_of_getElem? (i := 873) (by decide +kernel), List.mem_of_getElem? (i := 1338) (by decide +kernel), List.mem_of_getElem? (i := 1339) (by decide +kernel)⟩
theorem lw_p88 : lw_okq (⟨"LitmusHallModel", "fenced", "(II)V"⟩, 52) := ⟨⟨by decide +kernel, by decide +kernel⟩, List.mem_of_getElem? (i := 873) (by decide +kernel), List.mem_of_getElem? (i := 1342) (by decide +kernel), List.mem_of_getElem? (i := 1343) (by decide +kernel)⟩
theorem lw_p89 : lw_okq (⟨"LitmusHallModel", "leadsTo", "(IIII)V"⟩, 52) := ⟨⟨by decide +kernel, by decide +kernel⟩, List.mem_of_getElem? (i := 873) (by decide +kernel), List.mem_of_getElem? (i := 1349) (by decide +kernel), List.mem_of_getElem? (i := 1350) (by decide +kernel)⟩
def lw_privs_6 : List (MethodName × Nat) := [(⟨"LitmusHallModel", "told", "(III)I"⟩, 52), (⟨"LitmusHallModel", "isOutcome", "(II)Z"⟩, 52), (⟨"LitmusHallModel", "stepOf", "(III)I"⟩, 52), (⟨"LitmusHallModel", "isWithout", "(I)Z"⟩, 52), (⟨"LitmusHallModel", "isRace", "(I)Z"⟩, 52), (⟨"LitmusHallModel", "nextOf", "(II)I"⟩, 52), (⟨"LitmusHallModel", "findSpots", "()V"⟩, 52), (⟨"LitmusHallModel", "cures", "(II)I"⟩, 52), (⟨"LitmusHallModel", "fenced", "(II)V"⟩, 52), (⟨"LitmusHallModel", "leadsTo", "(IIII)V"⟩, 52)]
theorem lw_r6 : ∀ q ∈ lw_privs_6, lw_okq q := List.forall_mem_cons.mpr ⟨lw_p80, List.forall_mem_cons.mpr ⟨lw_p81, List.forall_mem_cons.mpr ⟨lw_p82, List.forall_mem_cons.mpr ⟨lw_p83, List.forall_mem_cons.mpr ⟨lw_p84, List.forall_mem_cons.mpr ⟨lw_p85, List.forall_mem_cons.mpr ⟨lw_p86, List.forall_mem_cons.mpr ⟨lw_p87, List.forall_mem_cons.mpr ⟨lw_p88, List.forall_mem_cons.mpr ⟨lw_p89, fun _ h => absurd h List.not_mem_nil⟩⟩⟩⟩⟩⟩⟩⟩⟩⟩
def lw_privs : List (MethodName × Nat) := lw_privs_1 ++ (lw_privs_2 ++ (lw_privs_3 ++ (lw_privs_4 ++ (lw_privs_5 ++ (lw_privs_6)))))
def lw_tbl : List Cond := k2_sels lw_privs ++ tables_1
theorem lw_privs_ok : ∀ q ∈ lw_privs, lw_okq q := by
  show ∀ q ∈ lw_privs_1 ++ (lw_privs_2 ++ (lw_privs_3 ++ (lw_privs_4 ++ (lw_privs_5 ++ (lw_privs_6))))), lw_okq q
  exact List.forall_mem_append.mpr ⟨lw_r1, List.forall_mem_append.mpr ⟨lw_r2, List.forall_mem_append.mpr ⟨lw_r3, List.forall_mem_append.mpr ⟨lw_r4, List.forall_mem_append.mpr ⟨lw_r5, lw_r6⟩⟩⟩⟩⟩
end
section
/-! ===== BEGIN words of one list among another's, by their places ===== -/
theorem goodIn_r {big : List Cond} (ws : List Cond) (ps : List Nat) (hp : ws = ps.filterMap (fun i => big[i]?)) (h : ws.all goodWord = true) : GoodIn big ws := by
  intro w hw
  have h1 := List.all_eq_true.mp h w hw
  rw [hp] at hw
  obtain ⟨i, -, hi⟩ := List.mem_filterMap.mp hw
  have hm : w ∈ big := by first | exact List.mem_of_getElem? hi | exact List.getElem?_mem hi
  exact ⟨hm, good_of_word h1⟩
theorem goodIn_app {big a b : List Cond} (ha : GoodIn big a) (hb : GoodIn big b) : GoodIn big (a ++ b) := fun w h => (List.mem_append.mp h).elim (ha w) (hb w)
theorem goodIn_ca {big a b : List Cond} {c : Cond} (ha : GoodIn big (c :: a)) (hb : GoodIn big b) : GoodIn big (c :: (a ++ b)) := fun w h => (List.mem_cons.mp h).elim (fun e => ha w (List.mem_cons.mpr (Or.inl e))) (fun h => (List.mem_append.mp h).elim (fun h => ha w (List.mem_cons.mpr (Or.inr h))) (hb w))
theorem goodIn_sub {big ws : List Cond} (hm : ∀ w ∈ ws, w ∈ big) (h : ws.all goodWord = true) : GoodIn big ws := fun w hw => ⟨hm w hw, good_of_word (List.all_eq_true.mp h w hw)⟩
/-! ===== END ===== -/

/-! ===== BEGIN printed: names, fields, word lists, decode rows ===== -/
def RX0 : String := "LitmusHall$Cure"
def TX0 : u_T := fun k => match k with
  | 0 => ("LitmusHall$Cure", "fenced", "LLitmusHall$Program;", true)
  | 1 => ("LitmusHall$Cure", "lookedSizes", "I", false)
  | 2 => ("LitmusHall$Cure", "answer", "I", false)
  | 3 => ("LitmusHall$Cure", "looked", "[I", true)
  | 4 => ("LitmusHall$Cure", "toldSize", "I", false)
  | _ => ("LitmusHall$Cure", "told", "[I", true)
def tyX0 : Nat → FieldType := fun k => match k with
  | 0 => .object "LitmusHall$Program"
  | 1 => .int
  | 2 => .int
  | 3 => .array .int
  | 4 => .int
  | _ => .array .int
abbrev wsX00 : List Cond := u_ws RX0 TX0 6
theorem nmX0 : ∀ a, a < 6 → ∀ b, b < 6 → a ≠ b → (TX0 a).2.1 ≠ (TX0 b).2.1 := by decide +kernel
theorem tyX0_ok : ∀ k, k < 6 → parseFieldDescriptor (TX0 k).2.2.1 = some (tyX0 k) := by decide +kernel
abbrev cX0_init : ByteArray := prog_2_method_1_code
def yX0_init : MethodName := ⟨RX0, "<init>", "()V"⟩
abbrev cX0_forgetSearch : ByteArray := prog_2_method_2_code
def yX0_forgetSearch : MethodName := ⟨RX0, "forgetSearch", "()V"⟩
abbrev cX0_least : ByteArray := prog_2_method_3_code
def yX0_least : MethodName := ⟨RX0, "least", "(LLitmusHall$Program;LLitmusHall$Findings;LLitmusHall$Explorer;I)I"⟩
abbrev cX0_lookAtSize : ByteArray := prog_2_method_4_code
def yX0_lookAtSize : MethodName := ⟨RX0, "lookAtSize", "(LLitmusHall$Program;LLitmusHall$Findings;LLitmusHall$Explorer;I)I"⟩
abbrev cX0_toldPlace : ByteArray := prog_2_method_5_code
def yX0_toldPlace : MethodName := ⟨RX0, "toldPlace", "(I)I"⟩
def RX1 : String := "LitmusHall$Explorer"
def TX1 : u_T := fun k => match k with
  | 0 => ("LitmusHall$Explorer", "size", "I", false)
  | 1 => ("LitmusHall$Explorer", "endSize", "I", false)
  | 2 => ("LitmusHall$Explorer", "ends", "[I", true)
  | 3 => ("LitmusHall$Explorer", "path", "[I", true)
  | 4 => ("LitmusHall$Explorer", "state", "LLitmusHall$State;", true)
  | 5 => ("LitmusHall$Explorer", "moved", "LLitmusHall$State;", true)
  | 6 => ("LitmusHall$Explorer", "width", "I", false)
  | 7 => ("LitmusHall$Explorer", "rows", "[I", false)
  | 8 => ("LitmusHall$Explorer", "slots", "[I", true)
  | _ => ("LitmusHall$Explorer", "came", "[I", true)
def tyX1 : Nat → FieldType := fun k => match k with
  | 0 => .int
  | 1 => .int
  | 2 => .array .int
  | 3 => .array .int
  | 4 => .object "LitmusHall$State"
  | 5 => .object "LitmusHall$State"
  | 6 => .int
  | 7 => .array .int
  | 8 => .array .int
  | _ => .array .int
abbrev wsX10 : List Cond := u_ws RX1 TX1 10
theorem nmX1 : ∀ a, a < 10 → ∀ b, b < 10 → a ≠ b → (TX1 a).2.1 ≠ (TX1 b).2.1 := by decide +kernel
theorem tyX1_ok : ∀ k, k < 10 → parseFieldDescriptor (TX1 k).2.2.1 = some (tyX1 k) := by decide +kernel
abbrev cX1_init : ByteArray := prog_3_method_1_code
def yX1_init : MethodName := ⟨RX1, "<init>", "()V"⟩
abbrev cX1_explore : ByteArray := prog_3_method_2_code
def yX1_explore : MethodName := ⟨RX1, "explore", "(LLitmusHall$Program;I)Z"⟩
abbrev cX1_fetch : ByteArray := prog_3_method_3_code
def yX1_fetch : MethodName := ⟨RX1, "fetch", "(I)V"⟩
abbrev cX1_keep : ByteArray := prog_3_method_4_code
def yX1_keep : MethodName := ⟨RX1, "keep", "([II)Z"⟩
abbrev cX1_hashOf : ByteArray := prog_3_method_5_code
def yX1_hashOf : MethodName := ⟨RX1, "hashOf", "([I)I"⟩
abbrev cX1_isSame : ByteArray := prog_3_method_6_code
def yX1_isSame : MethodName := ⟨RX1, "isSame", "(I[I)Z"⟩
abbrev cX1_add : ByteArray := prog_3_method_7_code
def yX1_add : MethodName := ⟨RX1, "add", "([IIII)Z"⟩
abbrev cX1_addEnd : ByteArray := prog_3_method_8_code
def yX1_addEnd : MethodName := ⟨RX1, "addEnd", "(I)V"⟩
abbrev cX1_isBefore : ByteArray := prog_3_method_9_code
def yX1_isBefore : MethodName := ⟨RX1, "isBefore", "(II)Z"⟩
abbrev cX1_intOf : ByteArray := prog_3_method_10_code
def yX1_intOf : MethodName := ⟨RX1, "intOf", "(II)I"⟩
abbrev cX1_pathTo : ByteArray := prog_3_method_11_code
def yX1_pathTo : MethodName := ⟨RX1, "pathTo", "(I)I"⟩
def RX2 : String := "LitmusHall$Findings"
def TX2 : u_T := fun k => match k with
  | 0 => ("LitmusHall$Findings", "known", "Z", false)
  | 1 => ("LitmusHall$Findings", "full", "Z", false)
  | 2 => ("LitmusHall$Findings", "states", "I", false)
  | 3 => ("LitmusHall$Findings", "size", "I", false)
  | _ => ("LitmusHall$Findings", "records", "[I", false)
def tyX2 : Nat → FieldType := fun k => match k with
  | 0 => .boolean
  | 1 => .boolean
  | 2 => .int
  | 3 => .int
  | _ => .array .int
abbrev wsX20 : List Cond := u_ws RX2 TX2 5
theorem nmX2 : ∀ a, a < 5 → ∀ b, b < 5 → a ≠ b → (TX2 a).2.1 ≠ (TX2 b).2.1 := by decide +kernel
theorem tyX2_ok : ∀ k, k < 5 → parseFieldDescriptor (TX2 k).2.2.1 = some (tyX2 k) := by decide +kernel
abbrev cX2_init : ByteArray := prog_4_method_1_code
def yX2_init : MethodName := ⟨RX2, "<init>", "()V"⟩
abbrev cX2_fill : ByteArray := prog_4_method_2_code
def yX2_fill : MethodName := ⟨RX2, "fill", "(LLitmusHall$Explorer;Z)V"⟩
abbrev cX2_record : ByteArray := prog_4_method_3_code
def yX2_record : MethodName := ⟨RX2, "record", "(LLitmusHall$Explorer;I)V"⟩
abbrev cX2_has : ByteArray := prog_4_method_4_code
def yX2_has : MethodName := ⟨RX2, "has", "(I)Z"⟩
abbrev cX2_intOf : ByteArray := prog_4_method_5_code
def yX2_intOf : MethodName := ⟨RX2, "intOf", "(II)I"⟩
abbrev cX2_stepOf : ByteArray := prog_4_method_6_code
def yX2_stepOf : MethodName := ⟨RX2, "stepOf", "(II)I"⟩
abbrev cX2_statesOrNone : ByteArray := prog_4_method_7_code
def yX2_statesOrNone : MethodName := ⟨RX2, "statesOrNone", "()I"⟩
abbrev cX2_sizeOrNone : ByteArray := prog_4_method_8_code
def yX2_sizeOrNone : MethodName := ⟨RX2, "sizeOrNone", "()I"⟩
abbrev cX2_numberOfOther : ByteArray := prog_4_method_9_code
def yX2_numberOfOther : MethodName := ⟨RX2, "numberOfOther", "(LLitmusHall$Findings;I)I"⟩
abbrev cX2_compare : ByteArray := prog_4_method_10_code
def yX2_compare : MethodName := ⟨RX2, "compare", "(ILLitmusHall$Findings;I)I"⟩
abbrev cX2_isSame : ByteArray := prog_4_method_11_code
def yX2_isSame : MethodName := ⟨RX2, "isSame", "(LLitmusHall$Explorer;)Z"⟩
def RX3 : String := "LitmusHall$Machine"
def TX3 : u_T := fun k => match k with
  | 0 => ("LitmusHall$Machine", "state", "LLitmusHall$State;", true)
  | 1 => ("LitmusHall$Machine", "stands", "Z", false)
  | 2 => ("LitmusHall$Machine", "steps", "I", false)
  | 3 => ("LitmusHall$Machine", "mode", "I", false)
  | _ => ("LitmusHall$Machine", "done", "[I", true)
def tyX3 : Nat → FieldType := fun k => match k with
  | 0 => .object "LitmusHall$State"
  | 1 => .boolean
  | 2 => .int
  | 3 => .int
  | _ => .array .int
abbrev wsX30 : List Cond := u_ws RX3 TX3 5
theorem nmX3 : ∀ a, a < 5 → ∀ b, b < 5 → a ≠ b → (TX3 a).2.1 ≠ (TX3 b).2.1 := by decide +kernel
theorem tyX3_ok : ∀ k, k < 5 → parseFieldDescriptor (TX3 k).2.2.1 = some (tyX3 k) := by decide +kernel
abbrev cX3_init : ByteArray := prog_5_method_1_code
def yX3_init : MethodName := ⟨RX3, "<init>", "()V"⟩
abbrev cX3_start : ByteArray := prog_5_method_2_code
def yX3_start : MethodName := ⟨RX3, "start", "(LLitmusHall$Program;I)V"⟩
abbrev cX3_go : ByteArray := prog_5_method_3_code
def yX3_go : MethodName := ⟨RX3, "go", "(LLitmusHall$Program;I)Z"⟩
abbrev cX3_takeBack : ByteArray := prog_5_method_4_code
def yX3_takeBack : MethodName := ⟨RX3, "takeBack", "(LLitmusHall$Program;)Z"⟩
def RX4 : String := "LitmusHall$Program"
def TX4 : u_T := fun k => match k with
  | 0 => ("LitmusHall$Program", "cores", "I", false)
  | 1 => ("LitmusHall$Program", "lengths", "[I", true)
  | 2 => ("LitmusHall$Program", "cells", "[I", true)
  | _ => ("LitmusHall$Program", "parts", "[I", true)
def tyX4 : Nat → FieldType := fun k => match k with
  | 0 => .int
  | 1 => .array .int
  | 2 => .array .int
  | _ => .array .int
abbrev wsX40 : List Cond := u_ws RX4 TX4 4
theorem nmX4 : ∀ a, a < 4 → ∀ b, b < 4 → a ≠ b → (TX4 a).2.1 ≠ (TX4 b).2.1 := by decide +kernel
theorem tyX4_ok : ∀ k, k < 4 → parseFieldDescriptor (TX4 k).2.2.1 = some (tyX4 k) := by decide +kernel
abbrev cX4_init : ByteArray := prog_6_method_1_code
def yX4_init : MethodName := ⟨RX4, "<init>", "()V"⟩
abbrev cX4_clear : ByteArray := prog_6_method_2_code
def yX4_clear : MethodName := ⟨RX4, "clear", "()V"⟩
abbrev cX4_partsAt : ByteArray := prog_6_method_3_code
def yX4_partsAt : MethodName := ⟨RX4, "partsAt", "(II)I"⟩
abbrev cX4_part : ByteArray := prog_6_method_4_code
def yX4_part : MethodName := ⟨RX4, "part", "(III)I"⟩
abbrev cX4_hasRoom : ByteArray := prog_6_method_5_code
def yX4_hasRoom : MethodName := ⟨RX4, "hasRoom", "(I)Z"⟩
abbrev cX4_addBlank : ByteArray := prog_6_method_6_code
def yX4_addBlank : MethodName := ⟨RX4, "addBlank", "(II)I"⟩
abbrev cX4_insInAll : ByteArray := prog_6_method_7_code
def yX4_insInAll : MethodName := ⟨RX4, "insInAll", "()I"⟩
abbrev cX4_placesInAll : ByteArray := prog_6_method_8_code
def yX4_placesInAll : MethodName := ⟨RX4, "placesInAll", "()I"⟩
abbrev cX4_placeOf : ByteArray := prog_6_method_9_code
def yX4_placeOf : MethodName := ⟨RX4, "placeOf", "(I)I"⟩
abbrev cX4_becomeFenced : ByteArray := prog_6_method_10_code
def yX4_becomeFenced : MethodName := ⟨RX4, "becomeFenced", "(LLitmusHall$Program;II)V"⟩
abbrev cX4_copyIns : ByteArray := prog_6_method_11_code
def yX4_copyIns : MethodName := ⟨RX4, "copyIns", "(LLitmusHall$Program;III)V"⟩
abbrev cX4_within : ByteArray := prog_6_method_12_code
def yX4_within : MethodName := ⟨RX4, "within", "(III)I"⟩
def RX5 : String := "LitmusHall$Race"
def TX5 : u_T := fun k => match k with
  | 0 => ("LitmusHall$Race", "known", "Z", false)
  | 1 => ("LitmusHall$Race", "answer", "I", false)
  | 2 => ("LitmusHall$Race", "loader", "I", false)
  | 3 => ("LitmusHall$Race", "writer", "I", false)
  | 4 => ("LitmusHall$Race", "cell", "I", false)
  | 5 => ("LitmusHall$Race", "steps", "I", false)
  | _ => ("LitmusHall$Race", "path", "[I", true)
def tyX5 : Nat → FieldType := fun k => match k with
  | 0 => .boolean
  | 1 => .int
  | 2 => .int
  | 3 => .int
  | 4 => .int
  | 5 => .int
  | _ => .array .int
abbrev wsX50 : List Cond := u_ws RX5 TX5 7
theorem nmX5 : ∀ a, a < 7 → ∀ b, b < 7 → a ≠ b → (TX5 a).2.1 ≠ (TX5 b).2.1 := by decide +kernel
theorem tyX5_ok : ∀ k, k < 7 → parseFieldDescriptor (TX5 k).2.2.1 = some (tyX5 k) := by decide +kernel
abbrev cX5_init : ByteArray := prog_7_method_1_code
def yX5_init : MethodName := ⟨RX5, "<init>", "()V"⟩
abbrev cX5_search : ByteArray := prog_7_method_2_code
def yX5_search : MethodName := ⟨RX5, "search", "(LLitmusHall$Program;LLitmusHall$Explorer;)V"⟩
abbrev cX5_isRace : ByteArray := prog_7_method_3_code
def yX5_isRace : MethodName := ⟨RX5, "isRace", "(LLitmusHall$Program;LLitmusHall$State;)Z"⟩
abbrev cX5_loadedCell : ByteArray := prog_7_method_4_code
def yX5_loadedCell : MethodName := ⟨RX5, "loadedCell", "(LLitmusHall$Program;LLitmusHall$State;I)I"⟩
abbrev cX5_writes : ByteArray := prog_7_method_5_code
def yX5_writes : MethodName := ⟨RX5, "writes", "(LLitmusHall$Program;LLitmusHall$State;II)Z"⟩
abbrev cX5_tell : ByteArray := prog_7_method_6_code
def yX5_tell : MethodName := ⟨RX5, "tell", "(I)I"⟩
def RX6 : String := "LitmusHall$Reader"
def TX6 : u_T := fun k => match k with
  | 0 => ("LitmusHall$Reader", "draft", "LLitmusHall$Program;", false)
  | 1 => ("LitmusHall$Reader", "place", "I", false)
  | 2 => ("LitmusHall$Reader", "fault", "I", false)
  | 3 => ("LitmusHall$Reader", "latePlace", "I", false)
  | 4 => ("LitmusHall$Reader", "kinds", "[I", true)
  | 5 => ("LitmusHall$Reader", "starts", "[I", true)
  | 6 => ("LitmusHall$Reader", "numbers", "[I", true)
  | 7 => ("LitmusHall$Reader", "skipTokens", "[I", true)
  | 8 => ("LitmusHall$Reader", "at", "I", false)
  | 9 => ("LitmusHall$Reader", "told", "I", false)
  | 10 => ("LitmusHall$Reader", "valueReg", "I", false)
  | _ => ("LitmusHall$Reader", "value", "I", false)
def tyX6 : Nat → FieldType := fun k => match k with
  | 0 => .object "LitmusHall$Program"
  | 1 => .int
  | 2 => .int
  | 3 => .int
  | 4 => .array .int
  | 5 => .array .int
  | 6 => .array .int
  | 7 => .array .int
  | 8 => .int
  | 9 => .int
  | 10 => .int
  | _ => .int
abbrev wsX60 : List Cond := u_ws RX6 TX6 12
theorem nmX6 : ∀ a, a < 12 → ∀ b, b < 12 → a ≠ b → (TX6 a).2.1 ≠ (TX6 b).2.1 := by decide +kernel
theorem tyX6_ok : ∀ k, k < 12 → parseFieldDescriptor (TX6 k).2.2.1 = some (tyX6 k) := by decide +kernel
abbrev cX6_init : ByteArray := prog_8_method_1_code
def yX6_init : MethodName := ⟨RX6, "<init>", "()V"⟩
abbrev cX6_readText : ByteArray := prog_8_method_2_code
def yX6_readText : MethodName := ⟨RX6, "readText", "([BI)I"⟩
abbrev cX6_scan : ByteArray := prog_8_method_3_code
def yX6_scan : MethodName := ⟨RX6, "scan", "([BI)V"⟩
abbrev cX6_behindBlanks : ByteArray := prog_8_method_4_code
def yX6_behindBlanks : MethodName := ⟨RX6, "behindBlanks", "([BII)I"⟩
abbrev cX6_behindRun : ByteArray := prog_8_method_5_code
def yX6_behindRun : MethodName := ⟨RX6, "behindRun", "([BII)I"⟩
abbrev cX6_isLetter : ByteArray := prog_8_method_6_code
def yX6_isLetter : MethodName := ⟨RX6, "isLetter", "(I)Z"⟩
abbrev cX6_isDigit : ByteArray := prog_8_method_7_code
def yX6_isDigit : MethodName := ⟨RX6, "isDigit", "(I)Z"⟩
abbrev cX6_kindOf : ByteArray := prog_8_method_8_code
def yX6_kindOf : MethodName := ⟨RX6, "kindOf", "([BII)I"⟩
abbrev cX6_wordKind : ByteArray := prog_8_method_9_code
def yX6_wordKind : MethodName := ⟨RX6, "wordKind", "([BII)I"⟩
abbrev cX6_isWord : ByteArray := prog_8_method_10_code
def yX6_isWord : MethodName := ⟨RX6, "isWord", "([BIII)Z"⟩
abbrev cX6_numberOf : ByteArray := prog_8_method_11_code
def yX6_numberOf : MethodName := ⟨RX6, "numberOf", "([BII)I"⟩
abbrev cX6_fail : ByteArray := prog_8_method_12_code
def yX6_fail : MethodName := ⟨RX6, "fail", "(I)Z"⟩
abbrev cX6_take : ByteArray := prog_8_method_13_code
def yX6_take : MethodName := ⟨RX6, "take", "(I)Z"⟩
abbrev cX6_noteLate : ByteArray := prog_8_method_14_code
def yX6_noteLate : MethodName := ⟨RX6, "noteLate", "(I)V"⟩
abbrev cX6_readCells : ByteArray := prog_8_method_15_code
def yX6_readCells : MethodName := ⟨RX6, "readCells", "()Z"⟩
abbrev cX6_readCellLine : ByteArray := prog_8_method_16_code
def yX6_readCellLine : MethodName := ⟨RX6, "readCellLine", "()Z"⟩
abbrev cX6_takeReg : ByteArray := prog_8_method_17_code
def yX6_takeReg : MethodName := ⟨RX6, "takeReg", "()Z"⟩
abbrev cX6_takeCell : ByteArray := prog_8_method_18_code
def yX6_takeCell : MethodName := ⟨RX6, "takeCell", "()Z"⟩
abbrev cX6_takeVal : ByteArray := prog_8_method_19_code
def yX6_takeVal : MethodName := ⟨RX6, "takeVal", "(Z)Z"⟩
abbrev cX6_takeSkip : ByteArray := prog_8_method_20_code
def yX6_takeSkip : MethodName := ⟨RX6, "takeSkip", "()Z"⟩
abbrev cX6_readCores : ByteArray := prog_8_method_21_code
def yX6_readCores : MethodName := ⟨RX6, "readCores", "()Z"⟩
abbrev cX6_readIns : ByteArray := prog_8_method_22_code
def yX6_readIns : MethodName := ⟨RX6, "readIns", "(II)Z"⟩
abbrev cX6_shapeOf : ByteArray := prog_8_method_23_code
def yX6_shapeOf : MethodName := ⟨RX6, "shapeOf", "(I)Ljava/lang/String;"⟩
abbrev cX6_readPart : ByteArray := prog_8_method_24_code
def yX6_readPart : MethodName := ⟨RX6, "readPart", "(IC)Z"⟩
abbrev cX6_checkSkips : ByteArray := prog_8_method_25_code
def yX6_checkSkips : MethodName := ⟨RX6, "checkSkips", "(I)V"⟩
def RX7 : String := "LitmusHall$State"
def TX7 : u_T := fun k => match k with
  | _ => ("LitmusHall$State", "words", "[I", true)
def tyX7 : Nat → FieldType := fun k => match k with
  | _ => .array .int
abbrev wsX70 : List Cond := u_ws RX7 TX7 1
theorem nmX7 : ∀ a, a < 1 → ∀ b, b < 1 → a ≠ b → (TX7 a).2.1 ≠ (TX7 b).2.1 := by decide +kernel
theorem tyX7_ok : ∀ k, k < 1 → parseFieldDescriptor (TX7 k).2.2.1 = some (tyX7 k) := by decide +kernel
abbrev cX7_init : ByteArray := prog_9_method_1_code
def yX7_init : MethodName := ⟨RX7, "<init>", "()V"⟩
abbrev cX7_widthOf : ByteArray := prog_9_method_2_code
def yX7_widthOf : MethodName := ⟨RX7, "widthOf", "(LLitmusHall$Program;I)I"⟩
abbrev cX7_start : ByteArray := prog_9_method_3_code
def yX7_start : MethodName := ⟨RX7, "start", "(LLitmusHall$Program;)V"⟩
abbrev cX7_nextOf : ByteArray := prog_9_method_4_code
def yX7_nextOf : MethodName := ⟨RX7, "nextOf", "(I)I"⟩
abbrev cX7_rowSize : ByteArray := prog_9_method_5_code
def yX7_rowSize : MethodName := ⟨RX7, "rowSize", "(I)I"⟩
abbrev cX7_rowCell : ByteArray := prog_9_method_6_code
def yX7_rowCell : MethodName := ⟨RX7, "rowCell", "(II)I"⟩
abbrev cX7_rowInt : ByteArray := prog_9_method_7_code
def yX7_rowInt : MethodName := ⟨RX7, "rowInt", "(II)I"⟩
abbrev cX7_storedTo : ByteArray := prog_9_method_8_code
def yX7_storedTo : MethodName := ⟨RX7, "storedTo", "(I)I"⟩
abbrev cX7_hasEnded : ByteArray := prog_9_method_9_code
def yX7_hasEnded : MethodName := ⟨RX7, "hasEnded", "(LLitmusHall$Program;)Z"⟩
abbrev cX7_can : ByteArray := prog_9_method_10_code
def yX7_can : MethodName := ⟨RX7, "can", "(LLitmusHall$Program;I)Z"⟩
abbrev cX7_waits : ByteArray := prog_9_method_11_code
def yX7_waits : MethodName := ⟨RX7, "waits", "(I)Z"⟩
abbrev cX7_isLocked : ByteArray := prog_9_method_12_code
def yX7_isLocked : MethodName := ⟨RX7, "isLocked", "(I)Z"⟩
abbrev cX7_move : ByteArray := prog_9_method_13_code
def yX7_move : MethodName := ⟨RX7, "move", "(LLitmusHall$Program;II)V"⟩
abbrev cX7_letGo : ByteArray := prog_9_method_14_code
def yX7_letGo : MethodName := ⟨RX7, "letGo", "(I)V"⟩
abbrev cX7_seen : ByteArray := prog_9_method_15_code
def yX7_seen : MethodName := ⟨RX7, "seen", "(II)I"⟩
abbrev cX7_put : ByteArray := prog_9_method_16_code
def yX7_put : MethodName := ⟨RX7, "put", "(IIII)V"⟩
abbrev cX7_valueOf : ByteArray := prog_9_method_17_code
def yX7_valueOf : MethodName := ⟨RX7, "valueOf", "([III)I"⟩
abbrev cX7_lock : ByteArray := prog_9_method_18_code
def yX7_lock : MethodName := ⟨RX7, "lock", "([III)V"⟩
abbrev cX7_forgetStored : ByteArray := prog_9_method_19_code
def yX7_forgetStored : MethodName := ⟨RX7, "forgetStored", "(I)V"⟩
def RX8 : String := "LitmusHall"
def TX8 : u_T := fun k => match k with
  | 0 => ("LitmusHall", "tape", "[B", true)
  | 1 => ("LitmusHall", "tapeSize", "I", false)
  | 2 => ("LitmusHall", "reader", "LLitmusHall$Reader;", true)
  | 3 => ("LitmusHall", "faultPlace", "I", false)
  | 4 => ("LitmusHall", "loaded", "Z", false)
  | 5 => ("LitmusHall", "program", "LLitmusHall$Program;", false)
  | 6 => ("LitmusHall", "machine", "LLitmusHall$Machine;", true)
  | 7 => ("LitmusHall", "explorer", "LLitmusHall$Explorer;", false)
  | 8 => ("LitmusHall", "withRows", "LLitmusHall$Findings;", true)
  | 9 => ("LitmusHall", "withoutRows", "LLitmusHall$Findings;", true)
  | 10 => ("LitmusHall", "theRace", "LLitmusHall$Race;", true)
  | _ => ("LitmusHall", "theCure", "LLitmusHall$Cure;", true)
def tyX8 : Nat → FieldType := fun k => match k with
  | 0 => .array .byte
  | 1 => .int
  | 2 => .object "LitmusHall$Reader"
  | 3 => .int
  | 4 => .boolean
  | 5 => .object "LitmusHall$Program"
  | 6 => .object "LitmusHall$Machine"
  | 7 => .object "LitmusHall$Explorer"
  | 8 => .object "LitmusHall$Findings"
  | 9 => .object "LitmusHall$Findings"
  | 10 => .object "LitmusHall$Race"
  | _ => .object "LitmusHall$Cure"
abbrev wsX80 : List Cond := u_ws RX8 TX8 12
theorem nmX8 : ∀ a, a < 12 → ∀ b, b < 12 → a ≠ b → (TX8 a).2.1 ≠ (TX8 b).2.1 := by decide +kernel
theorem tyX8_ok : ∀ k, k < 12 → parseFieldDescriptor (TX8 k).2.2.1 = some (tyX8 k) := by decide +kernel
abbrev cX8_init : ByteArray := prog_1_method_1_code
def yX8_init : MethodName := ⟨RX8, "<init>", "()V"⟩
abbrev cX8_feed : ByteArray := prog_1_method_2_code
def yX8_feed : MethodName := ⟨RX8, "feed", "(IIIII)I"⟩
abbrev cX8_feedWord : ByteArray := prog_1_method_3_code
def yX8_feedWord : MethodName := ⟨RX8, "feedWord", "(I)V"⟩
abbrev cX8_back : ByteArray := prog_1_method_4_code
def yX8_back : MethodName := ⟨RX8, "back", "(I)I"⟩
abbrev cX8_read : ByteArray := prog_1_method_5_code
def yX8_read : MethodName := ⟨RX8, "read", "()I"⟩
abbrev cX8_forgetFindings : ByteArray := prog_1_method_6_code
def yX8_forgetFindings : MethodName := ⟨RX8, "forgetFindings", "()V"⟩
abbrev cX8_place : ByteArray := prog_1_method_7_code
def yX8_place : MethodName := ⟨RX8, "place", "()I"⟩
abbrev cX8_ins : ByteArray := prog_1_method_8_code
def yX8_ins : MethodName := ⟨RX8, "ins", "(III)I"⟩
abbrev cX8_hasCore : ByteArray := prog_1_method_9_code
def yX8_hasCore : MethodName := ⟨RX8, "hasCore", "(I)Z"⟩
abbrev cX8_begin : ByteArray := prog_1_method_10_code
def yX8_begin : MethodName := ⟨RX8, "begin", "(I)Z"⟩
abbrev cX8_isMode : ByteArray := prog_1_method_11_code
def yX8_isMode : MethodName := ⟨RX8, "isMode", "(I)Z"⟩
abbrev cX8_step : ByteArray := prog_1_method_12_code
def yX8_step : MethodName := ⟨RX8, "step", "(I)Z"⟩
abbrev cX8_undo : ByteArray := prog_1_method_13_code
def yX8_undo : MethodName := ⟨RX8, "undo", "()Z"⟩
abbrev cX8_register : ByteArray := prog_1_method_14_code
def yX8_register : MethodName := ⟨RX8, "register", "(II)I"⟩
abbrev cX8_memory : ByteArray := prog_1_method_15_code
def yX8_memory : MethodName := ⟨RX8, "memory", "(I)I"⟩
abbrev cX8_next : ByteArray := prog_1_method_16_code
def yX8_next : MethodName := ⟨RX8, "next", "(I)I"⟩
abbrev cX8_store : ByteArray := prog_1_method_17_code
def yX8_store : MethodName := ⟨RX8, "store", "(III)I"⟩
abbrev cX8_outcomes : ByteArray := prog_1_method_18_code
def yX8_outcomes : MethodName := ⟨RX8, "outcomes", "(I)I"⟩
abbrev cX8_outcome : ByteArray := prog_1_method_19_code
def yX8_outcome : MethodName := ⟨RX8, "outcome", "(III)I"⟩
abbrev cX8_schedule : ByteArray := prog_1_method_20_code
def yX8_schedule : MethodName := ⟨RX8, "schedule", "(III)I"⟩
abbrev cX8_more : ByteArray := prog_1_method_21_code
def yX8_more : MethodName := ⟨RX8, "more", "(I)I"⟩
abbrev cX8_race : ByteArray := prog_1_method_22_code
def yX8_race : MethodName := ⟨RX8, "race", "()I"⟩
abbrev cX8_racer : ByteArray := prog_1_method_23_code
def yX8_racer : MethodName := ⟨RX8, "racer", "(I)I"⟩
abbrev cX8_findRace : ByteArray := prog_1_method_24_code
def yX8_findRace : MethodName := ⟨RX8, "findRace", "()V"⟩
abbrev cX8_cure : ByteArray := prog_1_method_25_code
def yX8_cure : MethodName := ⟨RX8, "cure", "(I)I"⟩
abbrev cX8_cured : ByteArray := prog_1_method_26_code
def yX8_cured : MethodName := ⟨RX8, "cured", "(I)I"⟩
abbrev cX8_count : ByteArray := prog_1_method_27_code
def yX8_count : MethodName := ⟨RX8, "count", "(I)I"⟩
abbrev cX8_countOfProgram : ByteArray := prog_1_method_28_code
def yX8_countOfProgram : MethodName := ⟨RX8, "countOfProgram", "(I)I"⟩
abbrev cX8_found : ByteArray := prog_1_method_29_code
def yX8_found : MethodName := ⟨RX8, "found", "(I)LLitmusHall$Findings;"⟩
abbrev cX8_explorerAtHand : ByteArray := prog_1_method_30_code
def yX8_explorerAtHand : MethodName := ⟨RX8, "explorerAtHand", "()LLitmusHall$Explorer;"⟩
def RX9 : String := "LitmusHallModel"
def TX9 : u_T := fun k => match k with
  | 0 => ("LitmusHallModel", "cores", "[I", true)
  | 1 => ("LitmusHallModel", "many", "[I", true)
  | 2 => ("LitmusHallModel", "kind", "[I", true)
  | 3 => ("LitmusHallModel", "cellOf", "[I", true)
  | 4 => ("LitmusHallModel", "regOf", "[I", true)
  | 5 => ("LitmusHallModel", "valReg", "[I", true)
  | 6 => ("LitmusHallModel", "valInt", "[I", true)
  | 7 => ("LitmusHallModel", "val2Reg", "[I", true)
  | 8 => ("LitmusHallModel", "val2Int", "[I", true)
  | 9 => ("LitmusHallModel", "skip", "[I", true)
  | 10 => ("LitmusHallModel", "cellInt", "[I", true)
  | 11 => ("LitmusHallModel", "isProgram", "Z", false)
  | 12 => ("LitmusHallModel", "state", "[I", true)
  | 13 => ("LitmusHallModel", "from", "[I", true)
  | 14 => ("LitmusHallModel", "by", "[I", true)
  | 15 => ("LitmusHallModel", "next", "[I", true)
  | 16 => ("LitmusHallModel", "head", "[I", true)
  | 17 => ("LitmusHallModel", "states", "[I", true)
  | 18 => ("LitmusHallModel", "isFull", "[Z", true)
  | 19 => ("LitmusHallModel", "isDone", "[Z", true)
  | 20 => ("LitmusHallModel", "ends", "[I", true)
  | 21 => ("LitmusHallModel", "endMany", "[I", true)
  | 22 => ("LitmusHallModel", "now", "[I", true)
  | 23 => ("LitmusHallModel", "machine", "[I", true)
  | 24 => ("LitmusHallModel", "history", "[I", true)
  | 25 => ("LitmusHallModel", "done", "I", false)
  | 26 => ("LitmusHallModel", "machineMode", "I", false)
  | 27 => ("LitmusHallModel", "tape", "[B", true)
  | 28 => ("LitmusHallModel", "taped", "I", false)
  | 29 => ("LitmusHallModel", "faultKind", "I", false)
  | 30 => ("LitmusHallModel", "faultPlace", "I", false)
  | 31 => ("LitmusHallModel", "sort", "I", false)
  | 32 => ("LitmusHallModel", "begin", "I", false)
  | 33 => ("LitmusHallModel", "end", "I", false)
  | 34 => ("LitmusHallModel", "word", "J", false)
  | 35 => ("LitmusHallModel", "tokens", "I", false)
  | 36 => ("LitmusHallModel", "stopped", "Z", false)
  | 37 => ("LitmusHallModel", "number", "I", false)
  | 38 => ("LitmusHallModel", "numberPlace", "I", false)
  | 39 => ("LitmusHallModel", "place", "I", false)
  | 40 => ("LitmusHallModel", "skipPlace", "[I", true)
  | 41 => ("LitmusHallModel", "racing", "I", false)
  | 42 => ("LitmusHallModel", "raceR", "I", false)
  | 43 => ("LitmusHallModel", "raceW", "I", false)
  | 44 => ("LitmusHallModel", "raceX", "I", false)
  | 45 => ("LitmusHallModel", "raceStep", "[I", true)
  | 46 => ("LitmusHallModel", "raceSteps", "I", false)
  | 47 => ("LitmusHallModel", "cureMany", "I", false)
  | 48 => ("LitmusHallModel", "cure", "[I", true)
  | 49 => ("LitmusHallModel", "spot", "[I", true)
  | 50 => ("LitmusHallModel", "spots", "I", false)
  | _ => ("LitmusHallModel", "moved", "[I", true)
def tyX9 : Nat → FieldType := fun k => match k with
  | 0 => .array .int
  | 1 => .array .int
  | 2 => .array .int
  | 3 => .array .int
  | 4 => .array .int
  | 5 => .array .int
  | 6 => .array .int
  | 7 => .array .int
  | 8 => .array .int
  | 9 => .array .int
  | 10 => .array .int
  | 11 => .boolean
  | 12 => .array .int
  | 13 => .array .int
  | 14 => .array .int
  | 15 => .array .int
  | 16 => .array .int
  | 17 => .array .int
  | 18 => .array .boolean
  | 19 => .array .boolean
  | 20 => .array .int
  | 21 => .array .int
  | 22 => .array .int
  | 23 => .array .int
  | 24 => .array .int
  | 25 => .int
  | 26 => .int
  | 27 => .array .byte
  | 28 => .int
  | 29 => .int
  | 30 => .int
  | 31 => .int
  | 32 => .int
  | 33 => .int
  | 34 => .long
  | 35 => .int
  | 36 => .boolean
  | 37 => .int
  | 38 => .int
  | 39 => .int
  | 40 => .array .int
  | 41 => .int
  | 42 => .int
  | 43 => .int
  | 44 => .int
  | 45 => .array .int
  | 46 => .int
  | 47 => .int
  | 48 => .array .int
  | 49 => .array .int
  | 50 => .int
  | _ => .array .int
abbrev wsX90 : List Cond := u_ws RX9 TX9 52
theorem nmX9 : ∀ a, a < 52 → ∀ b, b < 52 → a ≠ b → (TX9 a).2.1 ≠ (TX9 b).2.1 := by decide +kernel
theorem tyX9_ok : ∀ k, k < 52 → parseFieldDescriptor (TX9 k).2.2.1 = some (tyX9 k) := by decide +kernel
abbrev cX9_init : ByteArray := prog_11_method_1_code
def yX9_init : MethodName := ⟨RX9, "<init>", "()V"⟩
abbrev cX9_feed : ByteArray := prog_11_method_2_code
def yX9_feed : MethodName := ⟨RX9, "feed", "(IIIII)I"⟩
abbrev cX9_byteRow : ByteArray := prog_11_method_3_code
def yX9_byteRow : MethodName := ⟨RX9, "byteRow", "(I)V"⟩
abbrev cX9_back : ByteArray := prog_11_method_4_code
def yX9_back : MethodName := ⟨RX9, "back", "(I)I"⟩
abbrev cX9_seen : ByteArray := prog_11_method_5_code
def yX9_seen : MethodName := ⟨RX9, "seen", "(I)I"⟩
abbrev cX9_isLetter : ByteArray := prog_11_method_6_code
def yX9_isLetter : MethodName := ⟨RX9, "isLetter", "(I)Z"⟩
abbrev cX9_isDigit : ByteArray := prog_11_method_7_code
def yX9_isDigit : MethodName := ⟨RX9, "isDigit", "(I)Z"⟩
abbrev cX9_token : ByteArray := prog_11_method_8_code
def yX9_token : MethodName := ⟨RX9, "token", "()V"⟩
abbrev cX9_stop : ByteArray := prog_11_method_9_code
def yX9_stop : MethodName := ⟨RX9, "stop", "(II)Z"⟩
abbrev cX9_tell : ByteArray := prog_11_method_10_code
def yX9_tell : MethodName := ⟨RX9, "tell", "(I)V"⟩
abbrev cX9_pass : ByteArray := prog_11_method_11_code
def yX9_pass : MethodName := ⟨RX9, "pass", "()Z"⟩
abbrev cX9_isWord : ByteArray := prog_11_method_12_code
def yX9_isWord : MethodName := ⟨RX9, "isWord", "(J)Z"⟩
abbrev cX9_sign : ByteArray := prog_11_method_13_code
def yX9_sign : MethodName := ⟨RX9, "sign", "(I)Z"⟩
abbrev cX9_words : ByteArray := prog_11_method_14_code
def yX9_words : MethodName := ⟨RX9, "words", "(J)Z"⟩
abbrev cX9_whole : ByteArray := prog_11_method_15_code
def yX9_whole : MethodName := ⟨RX9, "whole", "()Z"⟩
abbrev cX9_integer : ByteArray := prog_11_method_16_code
def yX9_integer : MethodName := ⟨RX9, "integer", "()Z"⟩
abbrev cX9_cell : ByteArray := prog_11_method_17_code
def yX9_cell : MethodName := ⟨RX9, "cell", "()Z"⟩
abbrev cX9_isRegister : ByteArray := prog_11_method_18_code
def yX9_isRegister : MethodName := ⟨RX9, "isRegister", "()Z"⟩
abbrev cX9_register : ByteArray := prog_11_method_19_code
def yX9_register : MethodName := ⟨RX9, "register", "()Z"⟩
abbrev cX9_value : ByteArray := prog_11_method_20_code
def yX9_value : MethodName := ⟨RX9, "value", "(Z)Z"⟩
abbrev cX9_began : ByteArray := prog_11_method_21_code
def yX9_began : MethodName := ⟨RX9, "began", "(J)I"⟩
abbrev cX9_read : ByteArray := prog_11_method_22_code
def yX9_read : MethodName := ⟨RX9, "read", "()I"⟩
abbrev cX9_text : ByteArray := prog_11_method_23_code
def yX9_text : MethodName := ⟨RX9, "text", "()Z"⟩
abbrev cX9_core : ByteArray := prog_11_method_24_code
def yX9_core : MethodName := ⟨RX9, "core", "()Z"⟩
abbrev cX9_instruction : ByteArray := prog_11_method_25_code
def yX9_instruction : MethodName := ⟨RX9, "instruction", "(I)Z"⟩
abbrev cX9_place : ByteArray := prog_11_method_26_code
def yX9_place : MethodName := ⟨RX9, "place", "()I"⟩
abbrev cX9_copyProgram : ByteArray := prog_11_method_27_code
def yX9_copyProgram : MethodName := ⟨RX9, "copyProgram", "(II)V"⟩
abbrev cX9_copyIns : ByteArray := prog_11_method_28_code
def yX9_copyIns : MethodName := ⟨RX9, "copyIns", "(II)V"⟩
abbrev cX9_ins : ByteArray := prog_11_method_29_code
def yX9_ins : MethodName := ⟨RX9, "ins", "(III)I"⟩
abbrev cX9_rowAt : ByteArray := prog_11_method_30_code
def yX9_rowAt : MethodName := ⟨RX9, "rowAt", "(I)I"⟩
abbrev cX9_can : ByteArray := prog_11_method_31_code
def yX9_can : MethodName := ⟨RX9, "can", "(III)Z"⟩
abbrev cX9_taken : ByteArray := prog_11_method_32_code
def yX9_taken : MethodName := ⟨RX9, "taken", "(III)I"⟩
abbrev cX9_loaded : ByteArray := prog_11_method_33_code
def yX9_loaded : MethodName := ⟨RX9, "loaded", "(II)I"⟩
abbrev cX9_goes : ByteArray := prog_11_method_34_code
def yX9_goes : MethodName := ⟨RX9, "goes", "(I)V"⟩
abbrev cX9_put : ByteArray := prog_11_method_35_code
def yX9_put : MethodName := ⟨RX9, "put", "(IIII)V"⟩
abbrev cX9_does : ByteArray := prog_11_method_36_code
def yX9_does : MethodName := ⟨RX9, "does", "(IIIZ)V"⟩
abbrev cX9_locked : ByteArray := prog_11_method_37_code
def yX9_locked : MethodName := ⟨RX9, "locked", "(IIIII)V"⟩
abbrev cX9_isEnd : ByteArray := prog_11_method_38_code
def yX9_isEnd : MethodName := ⟨RX9, "isEnd", "(I[II)Z"⟩
abbrev cX9_sum : ByteArray := prog_11_method_39_code
def yX9_sum : MethodName := ⟨RX9, "sum", "([II)I"⟩
abbrev cX9_isNow : ByteArray := prog_11_method_40_code
def yX9_isNow : MethodName := ⟨RX9, "isNow", "(II)Z"⟩
abbrev cX9_comes : ByteArray := prog_11_method_41_code
def yX9_comes : MethodName := ⟨RX9, "comes", "(III)Z"⟩
abbrev cX9_first : ByteArray := prog_11_method_42_code
def yX9_first : MethodName := ⟨RX9, "first", "()V"⟩
abbrev cX9_at : ByteArray := prog_11_method_43_code
def yX9_at : MethodName := ⟨RX9, "at", "(II)V"⟩
abbrev cX9_explore : ByteArray := prog_11_method_44_code
def yX9_explore : MethodName := ⟨RX9, "explore", "(IIIZ)V"⟩
abbrev cX9_told : ByteArray := prog_11_method_45_code
def yX9_told : MethodName := ⟨RX9, "told", "(III)I"⟩
abbrev cX9_compare : ByteArray := prog_11_method_46_code
def yX9_compare : MethodName := ⟨RX9, "compare", "(IIII)I"⟩
abbrev cX9_sink : ByteArray := prog_11_method_47_code
def yX9_sink : MethodName := ⟨RX9, "sink", "(III)V"⟩
abbrev cX9_sortEnds : ByteArray := prog_11_method_48_code
def yX9_sortEnds : MethodName := ⟨RX9, "sortEnds", "(I)V"⟩
abbrev cX9_explored : ByteArray := prog_11_method_49_code
def yX9_explored : MethodName := ⟨RX9, "explored", "(I)Z"⟩
abbrev cX9_begin : ByteArray := prog_11_method_50_code
def yX9_begin : MethodName := ⟨RX9, "begin", "(I)Z"⟩
abbrev cX9_keepMachine : ByteArray := prog_11_method_51_code
def yX9_keepMachine : MethodName := ⟨RX9, "keepMachine", "()V"⟩
abbrev cX9_takeMachine : ByteArray := prog_11_method_52_code
def yX9_takeMachine : MethodName := ⟨RX9, "takeMachine", "()V"⟩
abbrev cX9_step : ByteArray := prog_11_method_53_code
def yX9_step : MethodName := ⟨RX9, "step", "(I)Z"⟩
abbrev cX9_undo : ByteArray := prog_11_method_54_code
def yX9_undo : MethodName := ⟨RX9, "undo", "()Z"⟩
abbrev cX9_isCore : ByteArray := prog_11_method_55_code
def yX9_isCore : MethodName := ⟨RX9, "isCore", "(I)Z"⟩
abbrev cX9_register_ : ByteArray := prog_11_method_56_code
def yX9_register_ : MethodName := ⟨RX9, "register", "(II)I"⟩
abbrev cX9_memory : ByteArray := prog_11_method_57_code
def yX9_memory : MethodName := ⟨RX9, "memory", "(I)I"⟩
abbrev cX9_next : ByteArray := prog_11_method_58_code
def yX9_next : MethodName := ⟨RX9, "next", "(I)I"⟩
abbrev cX9_store : ByteArray := prog_11_method_59_code
def yX9_store : MethodName := ⟨RX9, "store", "(III)I"⟩
abbrev cX9_outcomes : ByteArray := prog_11_method_60_code
def yX9_outcomes : MethodName := ⟨RX9, "outcomes", "(I)I"⟩
abbrev cX9_isOutcome : ByteArray := prog_11_method_61_code
def yX9_isOutcome : MethodName := ⟨RX9, "isOutcome", "(II)Z"⟩
abbrev cX9_outcome : ByteArray := prog_11_method_62_code
def yX9_outcome : MethodName := ⟨RX9, "outcome", "(III)I"⟩
abbrev cX9_stepOf : ByteArray := prog_11_method_63_code
def yX9_stepOf : MethodName := ⟨RX9, "stepOf", "(III)I"⟩
abbrev cX9_schedule : ByteArray := prog_11_method_64_code
def yX9_schedule : MethodName := ⟨RX9, "schedule", "(III)I"⟩
abbrev cX9_isWithout : ByteArray := prog_11_method_65_code
def yX9_isWithout : MethodName := ⟨RX9, "isWithout", "(I)Z"⟩
abbrev cX9_more : ByteArray := prog_11_method_66_code
def yX9_more : MethodName := ⟨RX9, "more", "(I)I"⟩
abbrev cX9_nextOf : ByteArray := prog_11_method_67_code
def yX9_nextOf : MethodName := ⟨RX9, "nextOf", "(II)I"⟩
abbrev cX9_isRace : ByteArray := prog_11_method_68_code
def yX9_isRace : MethodName := ⟨RX9, "isRace", "(I)Z"⟩
abbrev cX9_race : ByteArray := prog_11_method_69_code
def yX9_race : MethodName := ⟨RX9, "race", "()I"⟩
abbrev cX9_racer : ByteArray := prog_11_method_70_code
def yX9_racer : MethodName := ⟨RX9, "racer", "(I)I"⟩
abbrev cX9_findSpots : ByteArray := prog_11_method_71_code
def yX9_findSpots : MethodName := ⟨RX9, "findSpots", "()V"⟩
abbrev cX9_isPut : ByteArray := prog_11_method_72_code
def yX9_isPut : MethodName := ⟨RX9, "isPut", "(III)Z"⟩
abbrev cX9_fenced : ByteArray := prog_11_method_73_code
def yX9_fenced : MethodName := ⟨RX9, "fenced", "(II)V"⟩
abbrev cX9_leadsTo : ByteArray := prog_11_method_74_code
def yX9_leadsTo : MethodName := ⟨RX9, "leadsTo", "(IIII)V"⟩
abbrev cX9_cures : ByteArray := prog_11_method_75_code
def yX9_cures : MethodName := ⟨RX9, "cures", "(II)I"⟩
abbrev cX9_cure : ByteArray := prog_11_method_76_code
def yX9_cure : MethodName := ⟨RX9, "cure", "(I)I"⟩
abbrev cX9_cured : ByteArray := prog_11_method_77_code
def yX9_cured : MethodName := ⟨RX9, "cured", "(I)I"⟩
abbrev cX9_count : ByteArray := prog_11_method_78_code
def yX9_count : MethodName := ⟨RX9, "count", "(I)I"⟩
def RJx8e188 : String := "java/lang/Cloneable"
def TJx8e188 : u_T := fun k => match k with
  | _ => ("", "", "", false)
def tyJx8e188 : Nat → FieldType := fun k => match k with
  | _ => .int
abbrev wsJx8e1880 : List Cond := u_ws RJx8e188 TJx8e188 0
theorem nmJx8e188 : ∀ a, a < 0 → ∀ b, b < 0 → a ≠ b → (TJx8e188 a).2.1 ≠ (TJx8e188 b).2.1 := by decide +kernel
theorem tyJx8e188_ok : ∀ k, k < 0 → parseFieldDescriptor (TJx8e188 k).2.2.1 = some (tyJx8e188 k) := by decide +kernel
def RJ6 : String := "java/lang/Integer"
def TJ6 : u_T := fun k => match k with
  | _ => ("", "", "", false)
def tyJ6 : Nat → FieldType := fun k => match k with
  | _ => .int
abbrev wsJ60 : List Cond := u_ws RJ6 TJ6 0
theorem nmJ6 : ∀ a, a < 0 → ∀ b, b < 0 → a ≠ b → (TJ6 a).2.1 ≠ (TJ6 b).2.1 := by decide +kernel
theorem tyJ6_ok : ∀ k, k < 0 → parseFieldDescriptor (TJ6 k).2.2.1 = some (tyJ6 k) := by decide +kernel
abbrev cJ6_compare_7cf53 : ByteArray := prog_13_method_40_code
def yJ6_compare_7cf53 : MethodName := ⟨RJ6, "compare", "(II)I"⟩
def RJ9 : String := "java/lang/Math"
def TJ9 : u_T := fun k => match k with
  | _ => ("", "", "", false)
def tyJ9 : Nat → FieldType := fun k => match k with
  | _ => .int
abbrev wsJ90 : List Cond := u_ws RJ9 TJ9 0
theorem nmJ9 : ∀ a, a < 0 → ∀ b, b < 0 → a ≠ b → (TJ9 a).2.1 ≠ (TJ9 b).2.1 := by decide +kernel
theorem tyJ9_ok : ∀ k, k < 0 → parseFieldDescriptor (TJ9 k).2.2.1 = some (tyJ9 k) := by decide +kernel
abbrev cJ9_max_7cf53 : ByteArray := prog_14_method_65_code
def yJ9_max_7cf53 : MethodName := ⟨RJ9, "max", "(II)I"⟩
abbrev cJ9_min_7cf53 : ByteArray := prog_14_method_69_code
def yJ9_min_7cf53 : MethodName := ⟨RJ9, "min", "(II)I"⟩
def RJ0 : String := "java/lang/String"
def TJ0 : u_T := fun k => match k with
  | _ => ("", "", "", false)
def tyJ0 : Nat → FieldType := fun k => match k with
  | _ => .int
abbrev wsJ00 : List Cond := u_ws RJ0 TJ0 0
theorem nmJ0 : ∀ a, a < 0 → ∀ b, b < 0 → a ≠ b → (TJ0 a).2.1 ≠ (TJ0 b).2.1 := by decide +kernel
theorem tyJ0_ok : ∀ k, k < 0 → parseFieldDescriptor (TJ0 k).2.2.1 = some (tyJ0 k) := by decide +kernel
abbrev cJ0_length_8abf5 : ByteArray := prog_15_method_54_code
def yJ0_length_8abf5 : MethodName := ⟨RJ0, "length", "()I"⟩
abbrev cJ0_charAt_5068e : ByteArray := prog_15_method_56_code
def yJ0_charAt_5068e : MethodName := ⟨RJ0, "charAt", "(I)C"⟩
abbrev cJ0_coder_7d493 : ByteArray := prog_15_method_152_code
def yJ0_coder_7d493 : MethodName := ⟨RJ0, "coder", "()B"⟩
abbrev cJ0_isLatin1_aae02 : ByteArray := prog_15_method_154_code
def yJ0_isLatin1_aae02 : MethodName := ⟨RJ0, "isLatin1", "()Z"⟩
abbrev cJ0_checkIndex_df160 : ByteArray := prog_15_method_155_code
def yJ0_checkIndex_df160 : MethodName := ⟨RJ0, "checkIndex", "(II)V"⟩
def RJ1 : String := "java/lang/StringLatin1"
def TJ1 : u_T := fun k => match k with
  | _ => ("", "", "", false)
def tyJ1 : Nat → FieldType := fun k => match k with
  | _ => .int
abbrev wsJ10 : List Cond := u_ws RJ1 TJ1 0
theorem nmJ1 : ∀ a, a < 0 → ∀ b, b < 0 → a ≠ b → (TJ1 a).2.1 ≠ (TJ1 b).2.1 := by decide +kernel
theorem tyJ1_ok : ∀ k, k < 0 → parseFieldDescriptor (TJ1 k).2.2.1 = some (tyJ1 k) := by decide +kernel
abbrev cJ1_charAt_3b067 : ByteArray := prog_16_method_2_code
def yJ1_charAt_3b067 : MethodName := ⟨RJ1, "charAt", "([BI)C"⟩
def RJ2 : String := "java/lang/StringUTF16"
def TJ2 : u_T := fun k => match k with
  | _ => ("", "", "", false)
def tyJ2 : Nat → FieldType := fun k => match k with
  | _ => .int
abbrev wsJ20 : List Cond := u_ws RJ2 TJ2 0
theorem nmJ2 : ∀ a, a < 0 → ∀ b, b < 0 → a ≠ b → (TJ2 a).2.1 ≠ (TJ2 b).2.1 := by decide +kernel
theorem tyJ2_ok : ∀ k, k < 0 → parseFieldDescriptor (TJ2 k).2.2.1 = some (tyJ2 k) := by decide +kernel
abbrev cJ2_getChar_3b067 : ByteArray := prog_17_method_5_code
def yJ2_getChar_3b067 : MethodName := ⟨RJ2, "getChar", "([BI)C"⟩
abbrev cJ2_length_9d52b : ByteArray := prog_17_method_6_code
def yJ2_length_9d52b : MethodName := ⟨RJ2, "length", "([B)I"⟩
abbrev cJ2_charAt_3b067 : ByteArray := prog_17_method_83_code
def yJ2_charAt_3b067 : MethodName := ⟨RJ2, "charAt", "([BI)C"⟩
abbrev cJ2_checkIndex_2214a : ByteArray := prog_17_method_91_code
def yJ2_checkIndex_2214a : MethodName := ⟨RJ2, "checkIndex", "(I[B)V"⟩
def RJ10 : String := "java/lang/System"
def TJ10 : u_T := fun k => match k with
  | _ => ("", "", "", false)
def tyJ10 : Nat → FieldType := fun k => match k with
  | _ => .int
abbrev wsJ100 : List Cond := u_ws RJ10 TJ10 0
theorem nmJ10 : ∀ a, a < 0 → ∀ b, b < 0 → a ≠ b → (TJ10 a).2.1 ≠ (TJ10 b).2.1 := by decide +kernel
theorem tyJ10_ok : ∀ k, k < 0 → parseFieldDescriptor (TJ10 k).2.2.1 = some (tyJ10 k) := by decide +kernel
def RJ7 : String := "java/util/Arrays"
def TJ7 : u_T := fun k => match k with
  | _ => ("", "", "", false)
def tyJ7 : Nat → FieldType := fun k => match k with
  | _ => .int
abbrev wsJ70 : List Cond := u_ws RJ7 TJ7 0
theorem nmJ7 : ∀ a, a < 0 → ∀ b, b < 0 → a ≠ b → (TJ7 a).2.1 ≠ (TJ7 b).2.1 := by decide +kernel
theorem tyJ7_ok : ∀ k, k < 0 → parseFieldDescriptor (TJ7 k).2.2.1 = some (tyJ7 k) := by decide +kernel
abbrev cJ7_rangeCheck_23922 : ByteArray := prog_19_method_30_code
def yJ7_rangeCheck_23922 : MethodName := ⟨RJ7, "rangeCheck", "(III)V"⟩
abbrev cJ7_fill_53178 : ByteArray := prog_19_method_103_code
def yJ7_fill_53178 : MethodName := ⟨RJ7, "fill", "([II)V"⟩
abbrev cJ7_fill_fda19 : ByteArray := prog_19_method_104_code
def yJ7_fill_fda19 : MethodName := ⟨RJ7, "fill", "([IIII)V"⟩
abbrev cJ7_copyOf_59c91 : ByteArray := prog_19_method_123_code
def yJ7_copyOf_59c91 : MethodName := ⟨RJ7, "copyOf", "([II)[I"⟩
def RJ3 : String := "jdk/internal/util/Preconditions"
def TJ3 : u_T := fun k => match k with
  | _ => ("", "", "", false)
def tyJ3 : Nat → FieldType := fun k => match k with
  | _ => .int
abbrev wsJ30 : List Cond := u_ws RJ3 TJ3 0
theorem nmJ3 : ∀ a, a < 0 → ∀ b, b < 0 → a ≠ b → (TJ3 a).2.1 ≠ (TJ3 b).2.1 := by decide +kernel
theorem tyJ3_ok : ∀ k, k < 0 → parseFieldDescriptor (TJ3 k).2.2.1 = some (tyJ3 k) := by decide +kernel
abbrev cJ3_checkIndex_8e157 : ByteArray := prog_20_method_11_code
def yJ3_checkIndex_8e157 : MethodName := ⟨RJ3, "checkIndex", "(IILjava/util/function/BiFunction;)I"⟩
def RL : String := "LitmusHallLaw"
abbrev cL_law : ByteArray := code
def yL_law : MethodName := ⟨RL, "law", "([I)Z"⟩
def wsX4_init : List Cond := .code yX4_init cX4_init 1 none :: ([.methodLink RX4 3 objectInit, .instanceMethod objectInit, .code objectInit ⟨#[0xb1]⟩ 1 none, .arrayClass .int, .fieldLink RX4 9 "LitmusHall$Program" "lengths" "[I", .fieldLink RX4 15 "LitmusHall$Program" "cells" "[I", .fieldLink RX4 18 "LitmusHall$Program" "parts" "[I"] ++ wsX40)
def wsX0_init : List Cond := .code yX0_init cX0_init 1 none :: ([.methodLink RX0 3 objectInit, .instanceMethod objectInit, .code objectInit ⟨#[0xb1]⟩ 1 none, .classLink RX0 9 RX4, .instantiable RX4 4, .initialized RX4, .fieldLink RX0 12 "LitmusHall$Cure" "fenced" "LLitmusHall$Program;", .fieldLink RX0 18 "LitmusHall$Cure" "answer" "I", .arrayClass .int, .fieldLink RX0 22 "LitmusHall$Cure" "looked" "[I", .fieldLink RX0 26 "LitmusHall$Cure" "told" "[I", .instanceMethod yX4_init, .code yX4_init cX4_init 1 none, .methodLink RX4 3 objectInit, .fieldLink RX4 9 "LitmusHall$Program" "lengths" "[I", .fieldLink RX4 15 "LitmusHall$Program" "cells" "[I", .fieldLink RX4 18 "LitmusHall$Program" "parts" "[I"] ++ wsX40 ++ wsX00)
def wsX0_forgetSearch : List Cond := .code yX0_forgetSearch cX0_forgetSearch 1 none :: ([.fieldLink RX0 29 "LitmusHall$Cure" "lookedSizes" "I", .fieldLink RX0 18 "LitmusHall$Cure" "answer" "I"] ++ wsX00)
def wsX4_placesInAll : List Cond := .code yX4_placesInAll cX4_placesInAll 3 (some .int) :: ([.fieldLink RX4 21 "LitmusHall$Program" "cores" "I", .fieldLink RX4 9 "LitmusHall$Program" "lengths" "[I", .methodLink RX4 35 Lib.Math.max.name, .static Lib.Math.max.name, .initialized "java/lang/Math", .code Lib.Math.max.name Lib.Math.max.code 2 (some .int)] ++ wsX40)
def wsX4_placeOf : List Cond := .code yX4_placeOf cX4_placeOf 5 (some .int) :: ([.fieldLink RX4 21 "LitmusHall$Program" "cores" "I", .fieldLink RX4 9 "LitmusHall$Program" "lengths" "[I", .methodLink RX4 35 Lib.Math.max.name, .static Lib.Math.max.name, .initialized "java/lang/Math", .code Lib.Math.max.name Lib.Math.max.code 2 (some .int)] ++ wsX40)
def wsJ7_fill_53178 : List Cond := .code yJ7_fill_53178 cJ7_fill_53178 4 none :: ([])
def wsX4_clear : List Cond := .code yX4_clear cX4_clear 1 none :: ([.fieldLink RX4 21 "LitmusHall$Program" "cores" "I", .fieldLink RX4 9 "LitmusHall$Program" "lengths" "[I", .fieldLink RX4 15 "LitmusHall$Program" "cells" "[I", .methodLink RX4 25 yJ7_fill_53178, .static yJ7_fill_53178, .initialized RJ7, .code yJ7_fill_53178 cJ7_fill_53178 4 none] ++ wsX40)
def wsX4_hasRoom : List Cond := .code yX4_hasRoom cX4_hasRoom 2 (some .boolean) :: ([.fieldLink RX4 9 "LitmusHall$Program" "lengths" "[I"] ++ wsX40)
def wsX4_partsAt : List Cond := .code yX4_partsAt cX4_partsAt 2 (some .int) :: ([])
def wsX4_addBlank : List Cond := .code yX4_addBlank cX4_addBlank 4 (some .int) :: ([.fieldLink RX4 9 "LitmusHall$Program" "lengths" "[I", .fieldLink RX4 18 "LitmusHall$Program" "parts" "[I", .methodLink RX4 31 yX4_partsAt, .static yX4_partsAt, .initialized RX4, .code yX4_partsAt cX4_partsAt 2 (some .int)] ++ wsX40)
def wsX4_part : List Cond := .code yX4_part cX4_part 4 (some .int) :: ([.fieldLink RX4 18 "LitmusHall$Program" "parts" "[I", .methodLink RX4 31 yX4_partsAt, .static yX4_partsAt, .initialized RX4, .code yX4_partsAt cX4_partsAt 2 (some .int)] ++ wsX40)
def wsX4_within : List Cond := .code yX4_within cX4_within 3 (some .int) :: ([])
def wsX4_copyIns : List Cond := .code yX4_copyIns cX4_copyIns 7 none :: ([.fieldLink RX4 18 "LitmusHall$Program" "parts" "[I", .methodLink RX4 43 arraycopyName, .native arraycopyName, .static arraycopyName, .initialized "java/lang/System", .methodLink RX4 31 yX4_partsAt, .static yX4_partsAt, .initialized RX4, .code yX4_partsAt cX4_partsAt 2 (some .int), .methodLink RX4 53 yX4_addBlank, .instanceMethod yX4_addBlank, .selects RX4 yX4_addBlank yX4_addBlank, .code yX4_addBlank cX4_addBlank 4 (some .int), .fieldLink RX4 9 "LitmusHall$Program" "lengths" "[I"] ++ wsX40)
def wsX4_becomeFenced_r1 : List Cond := [Cond.fieldLink RX4 21 "LitmusHall$Program" "cores" "I", Cond.fieldLink RX4 15 "LitmusHall$Program" "cells" "[I", Cond.methodLink RX4 43 arraycopyName, Cond.native arraycopyName, Cond.static arraycopyName, Cond.initialized "java/lang/System", Cond.fieldLink RX4 9 "LitmusHall$Program" "lengths" "[I", Cond.methodLink RX4 40 yX4_clear, Cond.instanceMethod yX4_clear, Cond.selects RX4 yX4_clear yX4_clear, Cond.initialized RX4, Cond.code yX4_clear cX4_clear 1 none, Cond.methodLink RX4 25 yJ7_fill_53178, Cond.static yJ7_fill_53178, Cond.initialized RJ7, Cond.code yJ7_fill_53178 cJ7_fill_53178 4 none, Cond.methodLink RX4 49 yX4_hasRoom, Cond.instanceMethod yX4_hasRoom, Cond.selects RX4 yX4_hasRoom yX4_hasRoom, Cond.code yX4_hasRoom cX4_hasRoom 2 (some .boolean), Cond.methodLink RX4 53 yX4_addBlank, Cond.instanceMethod yX4_addBlank, Cond.selects RX4 yX4_addBlank yX4_addBlank, Cond.code yX4_addBlank cX4_addBlank 4 (some .int)]
def wsX4_becomeFenced_r2 : List Cond := [Cond.fieldLink RX4 18 "LitmusHall$Program" "parts" "[I", Cond.methodLink RX4 31 yX4_partsAt, Cond.static yX4_partsAt, Cond.code yX4_partsAt cX4_partsAt 2 (some .int), Cond.methodLink RX4 56 yX4_part, Cond.instanceMethod yX4_part, Cond.selects RX4 yX4_part yX4_part, Cond.code yX4_part cX4_part 4 (some .int), Cond.methodLink RX4 60 yX4_within, Cond.static yX4_within, Cond.code yX4_within cX4_within 3 (some .int), Cond.methodLink RX4 63 yX4_copyIns, Cond.instanceMethod yX4_copyIns, Cond.selects RX4 yX4_copyIns yX4_copyIns, Cond.code yX4_copyIns cX4_copyIns 7 none]
def wsX4_becomeFenced : List Cond := .code yX4_becomeFenced cX4_becomeFenced 9 none :: ((wsX4_becomeFenced_r1 ++ wsX4_becomeFenced_r2) ++ wsX40)
def wsX7_widthOf : List Cond := .code yX7_widthOf cX7_widthOf 2 (some .int) :: ([.fieldLink RX7 15 "LitmusHall$Program" "cores" "I"] ++ wsX40)
def wsX7_start : List Cond := .code yX7_start cX7_start 2 none :: ([.fieldLink RX7 11 "LitmusHall$State" "words" "[I", .fieldLink RX7 27 "LitmusHall$Program" "cells" "[I", .methodLink RX7 30 arraycopyName, .native arraycopyName, .static arraycopyName, .initialized "java/lang/System", .methodLink RX7 21 yJ7_fill_53178, .static yJ7_fill_53178, .initialized RJ7, .code yJ7_fill_53178 cJ7_fill_53178 4 none] ++ wsX70 ++ wsX40)
def wsX1_hashOf : List Cond := .code yX1_hashOf cX1_hashOf 4 (some .int) :: ([.fieldLink RX1 28 "LitmusHall$Explorer" "width" "I", .constant RX1 105 (-2048144789)] ++ wsX10)
def wsJ7_copyOf_59c91 : List Cond := .code yJ7_copyOf_59c91 cJ7_copyOf_59c91 3 (some (.array .int)) :: ([.methodLink RJ7 316 ⟨"[I", "clone", "()Ljava/lang/Object;"⟩, .sameMethod "[I" "java/lang/Object" "clone" "()Ljava/lang/Object;", .native ⟨"java/lang/Object", "clone", "()Ljava/lang/Object;"⟩, .instanceMethod ⟨"java/lang/Object", "clone", "()Ljava/lang/Object;"⟩, .selects "[I" ⟨"[I", "clone", "()Ljava/lang/Object;"⟩ ⟨"java/lang/Object", "clone", "()Ljava/lang/Object;"⟩, .classLink RJ7 317 "[I", .arrayClass .int, .methodLink RJ7 304 Lib.Math.min.name, .static Lib.Math.min.name, .initialized "java/lang/Math", .code Lib.Math.min.name Lib.Math.min.code 2 (some .int), .methodLink RJ7 150 arraycopyName, .native arraycopyName, .static arraycopyName, .initialized "java/lang/System"])
def wsX1_add_r1 : List Cond := [Cond.fieldLink RX1 47 "LitmusHall$Explorer" "size" "I", Cond.fieldLink RX1 28 "LitmusHall$Explorer" "width" "I", Cond.fieldLink RX1 32 "LitmusHall$Explorer" "rows" "[I", Cond.constant RX1 106 (102000), Cond.methodLink RX1 107 Lib.Math.min.name, Cond.static Lib.Math.min.name, Cond.initialized "java/lang/Math", Cond.code Lib.Math.min.name Lib.Math.min.code 2 (some .int), Cond.methodLink RX1 83 arraycopyName, Cond.native arraycopyName, Cond.static arraycopyName, Cond.initialized "java/lang/System", Cond.fieldLink RX1 38 "LitmusHall$Explorer" "came" "[I", Cond.fieldLink RX1 35 "LitmusHall$Explorer" "slots" "[I", Cond.methodLink RX1 113 yJ7_copyOf_59c91, Cond.static yJ7_copyOf_59c91, Cond.initialized RJ7, Cond.code yJ7_copyOf_59c91 cJ7_copyOf_59c91 3 (some (.array .int)), Cond.methodLink RJ7 316 ⟨"[I", "clone", "()Ljava/lang/Object;"⟩, Cond.sameMethod "[I" "java/lang/Object" "clone" "()Ljava/lang/Object;", Cond.native ⟨"java/lang/Object", "clone", "()Ljava/lang/Object;"⟩, Cond.instanceMethod ⟨"java/lang/Object", "clone", "()Ljava/lang/Object;"⟩, Cond.selects "[I" ⟨"[I", "clone", "()Ljava/lang/Object;"⟩ ⟨"java/lang/Object", "clone", "()Ljava/lang/Object;"⟩, Cond.classLink RJ7 317 "[I"]
def wsX1_add_r2 : List Cond := [Cond.arrayClass .int, Cond.methodLink RJ7 304 Lib.Math.min.name, Cond.methodLink RJ7 150 arraycopyName]
def wsX1_add : List Cond := .code yX1_add cX1_add 5 (some .boolean) :: ((wsX1_add_r1 ++ wsX1_add_r2) ++ wsX10)
def wsX1_isSame : List Cond := .code yX1_isSame cX1_isSame 5 (some .boolean) :: ([.fieldLink RX1 28 "LitmusHall$Explorer" "width" "I", .fieldLink RX1 32 "LitmusHall$Explorer" "rows" "[I"] ++ wsX10)
def wsX1_keep_r1 : List Cond := [Cond.fieldLink RX1 35 "LitmusHall$Explorer" "slots" "[I", Cond.methodLink RX1 93 yX1_hashOf, Cond.instanceMethod yX1_hashOf, Cond.selects RX1 yX1_hashOf yX1_hashOf, Cond.initialized RX1, Cond.code yX1_hashOf cX1_hashOf 4 (some .int), Cond.fieldLink RX1 28 "LitmusHall$Explorer" "width" "I", Cond.constant RX1 105 (-2048144789), Cond.methodLink RX1 97 yX1_add, Cond.instanceMethod yX1_add, Cond.selects RX1 yX1_add yX1_add, Cond.code yX1_add cX1_add 5 (some .boolean), Cond.fieldLink RX1 47 "LitmusHall$Explorer" "size" "I", Cond.fieldLink RX1 32 "LitmusHall$Explorer" "rows" "[I", Cond.constant RX1 106 (102000), Cond.methodLink RX1 107 Lib.Math.min.name, Cond.static Lib.Math.min.name, Cond.initialized "java/lang/Math", Cond.code Lib.Math.min.name Lib.Math.min.code 2 (some .int), Cond.methodLink RX1 83 arraycopyName, Cond.native arraycopyName, Cond.static arraycopyName, Cond.initialized "java/lang/System", Cond.fieldLink RX1 38 "LitmusHall$Explorer" "came" "[I"]
def wsX1_keep_r2 : List Cond := [Cond.methodLink RX1 113 yJ7_copyOf_59c91, Cond.static yJ7_copyOf_59c91, Cond.initialized RJ7, Cond.code yJ7_copyOf_59c91 cJ7_copyOf_59c91 3 (some (.array .int)), Cond.methodLink RJ7 316 ⟨"[I", "clone", "()Ljava/lang/Object;"⟩, Cond.sameMethod "[I" "java/lang/Object" "clone" "()Ljava/lang/Object;", Cond.native ⟨"java/lang/Object", "clone", "()Ljava/lang/Object;"⟩, Cond.instanceMethod ⟨"java/lang/Object", "clone", "()Ljava/lang/Object;"⟩, Cond.selects "[I" ⟨"[I", "clone", "()Ljava/lang/Object;"⟩ ⟨"java/lang/Object", "clone", "()Ljava/lang/Object;"⟩, Cond.classLink RJ7 317 "[I", Cond.arrayClass .int, Cond.methodLink RJ7 304 Lib.Math.min.name, Cond.methodLink RJ7 150 arraycopyName, Cond.methodLink RX1 101 yX1_isSame, Cond.instanceMethod yX1_isSame, Cond.selects RX1 yX1_isSame yX1_isSame, Cond.code yX1_isSame cX1_isSame 5 (some .boolean)]
def wsX1_keep : List Cond := .code yX1_keep cX1_keep 7 (some .boolean) :: ((wsX1_keep_r1 ++ wsX1_keep_r2) ++ wsX10)
def wsX1_fetch : List Cond := .code yX1_fetch cX1_fetch 2 none :: ([.fieldLink RX1 32 "LitmusHall$Explorer" "rows" "[I", .fieldLink RX1 28 "LitmusHall$Explorer" "width" "I", .fieldLink RX1 21 "LitmusHall$Explorer" "state" "LLitmusHall$State;", .fieldLink RX1 61 "LitmusHall$State" "words" "[I", .methodLink RX1 83 arraycopyName, .native arraycopyName, .static arraycopyName, .initialized "java/lang/System"] ++ wsX10 ++ wsX70)
def wsX7_hasEnded : List Cond := .code yX7_hasEnded cX7_hasEnded 3 (some .boolean) :: ([.fieldLink RX7 15 "LitmusHall$Program" "cores" "I", .fieldLink RX7 11 "LitmusHall$State" "words" "[I", .fieldLink RX7 36 "LitmusHall$Program" "lengths" "[I"] ++ wsX40 ++ wsX70)
def wsX1_isBefore : List Cond := .code yX1_isBefore cX1_isBefore 6 (some .boolean) :: ([.fieldLink RX1 32 "LitmusHall$Explorer" "rows" "[I", .fieldLink RX1 28 "LitmusHall$Explorer" "width" "I"] ++ wsX10)
def wsX1_addEnd : List Cond := .code yX1_addEnd cX1_addEnd 6 none :: ([.fieldLink RX1 50 "LitmusHall$Explorer" "endSize" "I", .fieldLink RX1 13 "LitmusHall$Explorer" "ends" "[I", .methodLink RX1 83 arraycopyName, .native arraycopyName, .static arraycopyName, .initialized "java/lang/System", .methodLink RX1 117 yX1_isBefore, .instanceMethod yX1_isBefore, .selects RX1 yX1_isBefore yX1_isBefore, .initialized RX1, .code yX1_isBefore cX1_isBefore 6 (some .boolean), .fieldLink RX1 32 "LitmusHall$Explorer" "rows" "[I", .fieldLink RX1 28 "LitmusHall$Explorer" "width" "I"] ++ wsX10)
def wsX7_rowSize : List Cond := .code yX7_rowSize cX7_rowSize 2 (some .int) :: ([.fieldLink RX7 11 "LitmusHall$State" "words" "[I"] ++ wsX70)
def wsX7_nextOf : List Cond := .code yX7_nextOf cX7_nextOf 2 (some .int) :: ([.fieldLink RX7 11 "LitmusHall$State" "words" "[I"] ++ wsX70)
def wsX7_isLocked : List Cond := .code yX7_isLocked cX7_isLocked 1 (some .boolean) :: ([])
def wsX7_waits : List Cond := .code yX7_waits cX7_waits 1 (some .boolean) :: ([.methodLink RX7 54 yX7_isLocked, .static yX7_isLocked, .initialized RX7, .code yX7_isLocked cX7_isLocked 1 (some .boolean)])
def wsX7_can_r1 : List Cond := [Cond.fieldLink RX7 15 "LitmusHall$Program" "cores" "I", Cond.fieldLink RX7 36 "LitmusHall$Program" "lengths" "[I", Cond.methodLink RX7 39 yX7_rowSize, Cond.instanceMethod yX7_rowSize, Cond.selects RX7 yX7_rowSize yX7_rowSize, Cond.initialized RX7, Cond.code yX7_rowSize cX7_rowSize 2 (some .int), Cond.fieldLink RX7 11 "LitmusHall$State" "words" "[I", Cond.methodLink RX7 43 yX7_nextOf, Cond.instanceMethod yX7_nextOf, Cond.selects RX7 yX7_nextOf yX7_nextOf, Cond.code yX7_nextOf cX7_nextOf 2 (some .int), Cond.methodLink RX7 46 yX4_part, Cond.instanceMethod yX4_part, Cond.selects RX4 yX4_part yX4_part, Cond.initialized RX4, Cond.code yX4_part cX4_part 4 (some .int), Cond.fieldLink RX4 18 "LitmusHall$Program" "parts" "[I", Cond.methodLink RX4 31 yX4_partsAt, Cond.static yX4_partsAt, Cond.code yX4_partsAt cX4_partsAt 2 (some .int), Cond.methodLink RX7 50 yX7_waits, Cond.static yX7_waits, Cond.code yX7_waits cX7_waits 1 (some .boolean)]
def wsX7_can_r2 : List Cond := [Cond.methodLink RX7 54 yX7_isLocked, Cond.static yX7_isLocked, Cond.code yX7_isLocked cX7_isLocked 1 (some .boolean)]
def wsX7_can : List Cond := .code yX7_can cX7_can 4 (some .boolean) :: ((wsX7_can_r1 ++ wsX7_can_r2) ++ wsX40 ++ wsX70)
def wsX7_rowCell : List Cond := .code yX7_rowCell cX7_rowCell 3 (some .int) :: ([.fieldLink RX7 11 "LitmusHall$State" "words" "[I"] ++ wsX70)
def wsX7_letGo : List Cond := .code yX7_letGo cX7_letGo 5 none :: ([.fieldLink RX7 11 "LitmusHall$State" "words" "[I", .methodLink RX7 30 arraycopyName, .native arraycopyName, .static arraycopyName, .initialized "java/lang/System", .constant RX7 89 (-524161), .methodLink RX7 86 yX7_rowCell, .instanceMethod yX7_rowCell, .selects RX7 yX7_rowCell yX7_rowCell, .initialized RX7, .code yX7_rowCell cX7_rowCell 3 (some .int)] ++ wsX70)
def wsX7_rowInt : List Cond := .code yX7_rowInt cX7_rowInt 3 (some .int) :: ([.fieldLink RX7 11 "LitmusHall$State" "words" "[I"] ++ wsX70)
def wsX7_seen : List Cond := .code yX7_seen cX7_seen 4 (some .int) :: ([.fieldLink RX7 11 "LitmusHall$State" "words" "[I", .methodLink RX7 39 yX7_rowSize, .instanceMethod yX7_rowSize, .selects RX7 yX7_rowSize yX7_rowSize, .initialized RX7, .code yX7_rowSize cX7_rowSize 2 (some .int), .methodLink RX7 86 yX7_rowCell, .instanceMethod yX7_rowCell, .selects RX7 yX7_rowCell yX7_rowCell, .code yX7_rowCell cX7_rowCell 3 (some .int), .methodLink RX7 90 yX7_rowInt, .instanceMethod yX7_rowInt, .selects RX7 yX7_rowInt yX7_rowInt, .code yX7_rowInt cX7_rowInt 3 (some .int)] ++ wsX70)
def wsX7_valueOf : List Cond := .code yX7_valueOf cX7_valueOf 5 (some .int) :: ([.fieldLink RX7 11 "LitmusHall$State" "words" "[I"] ++ wsX70)
def wsX7_put : List Cond := .code yX7_put cX7_put 6 none :: ([.fieldLink RX7 11 "LitmusHall$State" "words" "[I", .methodLink RX7 39 yX7_rowSize, .instanceMethod yX7_rowSize, .selects RX7 yX7_rowSize yX7_rowSize, .initialized RX7, .code yX7_rowSize cX7_rowSize 2 (some .int)] ++ wsX70)
def wsX7_forgetStored : List Cond := .code yX7_forgetStored cX7_forgetStored 2 none :: ([.fieldLink RX7 11 "LitmusHall$State" "words" "[I", .constant RX7 93 (-7864321)] ++ wsX70)
def wsX7_lock : List Cond := .code yX7_lock cX7_lock 11 none :: ([.fieldLink RX7 11 "LitmusHall$State" "words" "[I", .methodLink RX7 71 yX7_valueOf, .instanceMethod yX7_valueOf, .selects RX7 yX7_valueOf yX7_valueOf, .initialized RX7, .code yX7_valueOf cX7_valueOf 5 (some .int)] ++ wsX70)
def wsX7_move_r1 : List Cond := [Cond.fieldLink RX7 61 "LitmusHall$Program" "parts" "[I", Cond.fieldLink RX7 11 "LitmusHall$State" "words" "[I", Cond.methodLink RX7 57 yX7_letGo, Cond.instanceMethod yX7_letGo, Cond.selects RX7 yX7_letGo yX7_letGo, Cond.initialized RX7, Cond.code yX7_letGo cX7_letGo 5 none, Cond.methodLink RX7 30 arraycopyName, Cond.native arraycopyName, Cond.static arraycopyName, Cond.initialized "java/lang/System", Cond.constant RX7 89 (-524161), Cond.methodLink RX7 86 yX7_rowCell, Cond.instanceMethod yX7_rowCell, Cond.selects RX7 yX7_rowCell yX7_rowCell, Cond.code yX7_rowCell cX7_rowCell 3 (some .int), Cond.methodLink RX7 43 yX7_nextOf, Cond.instanceMethod yX7_nextOf, Cond.selects RX7 yX7_nextOf yX7_nextOf, Cond.code yX7_nextOf cX7_nextOf 2 (some .int), Cond.methodLink RX7 64 yX4_partsAt, Cond.static yX4_partsAt, Cond.initialized RX4, Cond.code yX4_partsAt cX4_partsAt 2 (some .int)]
def wsX7_move_r2 : List Cond := [Cond.methodLink RX7 68 yX7_seen, Cond.instanceMethod yX7_seen, Cond.selects RX7 yX7_seen yX7_seen, Cond.code yX7_seen cX7_seen 4 (some .int), Cond.methodLink RX7 39 yX7_rowSize, Cond.instanceMethod yX7_rowSize, Cond.selects RX7 yX7_rowSize yX7_rowSize, Cond.code yX7_rowSize cX7_rowSize 2 (some .int), Cond.methodLink RX7 90 yX7_rowInt, Cond.instanceMethod yX7_rowInt, Cond.selects RX7 yX7_rowInt yX7_rowInt, Cond.code yX7_rowInt cX7_rowInt 3 (some .int), Cond.methodLink RX7 71 yX7_valueOf, Cond.instanceMethod yX7_valueOf, Cond.selects RX7 yX7_valueOf yX7_valueOf, Cond.code yX7_valueOf cX7_valueOf 5 (some .int), Cond.methodLink RX7 75 yX7_put, Cond.instanceMethod yX7_put, Cond.selects RX7 yX7_put yX7_put, Cond.code yX7_put cX7_put 6 none, Cond.methodLink RX7 79 yX7_forgetStored, Cond.instanceMethod yX7_forgetStored, Cond.selects RX7 yX7_forgetStored yX7_forgetStored, Cond.code yX7_forgetStored cX7_forgetStored 2 none]
def wsX7_move_r3 : List Cond := [Cond.constant RX7 93 (-7864321), Cond.methodLink RX7 82 yX7_lock, Cond.instanceMethod yX7_lock, Cond.selects RX7 yX7_lock yX7_lock, Cond.code yX7_lock cX7_lock 11 none]
def wsX7_move : List Cond := .code yX7_move cX7_move 8 none :: ((wsX7_move_r1 ++ (wsX7_move_r2 ++ wsX7_move_r3)) ++ wsX40 ++ wsX70)
def wsX1_explore_r1 : List Cond := [Cond.fieldLink RX1 35 "LitmusHall$Explorer" "slots" "[I", Cond.fieldLink RX1 47 "LitmusHall$Explorer" "size" "I", Cond.fieldLink RX1 50 "LitmusHall$Explorer" "endSize" "I", Cond.fieldLink RX1 28 "LitmusHall$Explorer" "width" "I", Cond.fieldLink RX1 21 "LitmusHall$Explorer" "state" "LLitmusHall$State;", Cond.fieldLink RX1 61 "LitmusHall$State" "words" "[I", Cond.fieldLink RX1 25 "LitmusHall$Explorer" "moved" "LLitmusHall$State;", Cond.methodLink RX1 83 arraycopyName, Cond.native arraycopyName, Cond.static arraycopyName, Cond.initialized "java/lang/System", Cond.methodLink RX1 41 yJ7_fill_53178, Cond.static yJ7_fill_53178, Cond.initialized RJ7, Cond.code yJ7_fill_53178 cJ7_fill_53178 4 none, Cond.methodLink RX1 53 yX7_widthOf, Cond.static yX7_widthOf, Cond.initialized RX7, Cond.code yX7_widthOf cX7_widthOf 2 (some .int), Cond.fieldLink RX7 15 "LitmusHall$Program" "cores" "I", Cond.methodLink RX1 57 yX7_start, Cond.instanceMethod yX7_start, Cond.selects RX7 yX7_start yX7_start, Cond.code yX7_start cX7_start 2 none]
def wsX1_explore_r2 : List Cond := [Cond.fieldLink RX7 11 "LitmusHall$State" "words" "[I", Cond.fieldLink RX7 27 "LitmusHall$Program" "cells" "[I", Cond.methodLink RX7 30 arraycopyName, Cond.methodLink RX7 21 yJ7_fill_53178, Cond.methodLink RX1 64 yX1_keep, Cond.instanceMethod yX1_keep, Cond.selects RX1 yX1_keep yX1_keep, Cond.initialized RX1, Cond.code yX1_keep cX1_keep 7 (some .boolean), Cond.methodLink RX1 93 yX1_hashOf, Cond.instanceMethod yX1_hashOf, Cond.selects RX1 yX1_hashOf yX1_hashOf, Cond.code yX1_hashOf cX1_hashOf 4 (some .int), Cond.constant RX1 105 (-2048144789), Cond.methodLink RX1 97 yX1_add, Cond.instanceMethod yX1_add, Cond.selects RX1 yX1_add yX1_add, Cond.code yX1_add cX1_add 5 (some .boolean), Cond.fieldLink RX1 32 "LitmusHall$Explorer" "rows" "[I", Cond.constant RX1 106 (102000), Cond.methodLink RX1 107 Lib.Math.min.name, Cond.static Lib.Math.min.name, Cond.initialized "java/lang/Math", Cond.code Lib.Math.min.name Lib.Math.min.code 2 (some .int)]
def wsX1_explore_r3 : List Cond := [Cond.fieldLink RX1 38 "LitmusHall$Explorer" "came" "[I", Cond.methodLink RX1 113 yJ7_copyOf_59c91, Cond.static yJ7_copyOf_59c91, Cond.code yJ7_copyOf_59c91 cJ7_copyOf_59c91 3 (some (.array .int)), Cond.methodLink RJ7 316 ⟨"[I", "clone", "()Ljava/lang/Object;"⟩, Cond.sameMethod "[I" "java/lang/Object" "clone" "()Ljava/lang/Object;", Cond.native ⟨"java/lang/Object", "clone", "()Ljava/lang/Object;"⟩, Cond.instanceMethod ⟨"java/lang/Object", "clone", "()Ljava/lang/Object;"⟩, Cond.selects "[I" ⟨"[I", "clone", "()Ljava/lang/Object;"⟩ ⟨"java/lang/Object", "clone", "()Ljava/lang/Object;"⟩, Cond.classLink RJ7 317 "[I", Cond.arrayClass .int, Cond.methodLink RJ7 304 Lib.Math.min.name, Cond.methodLink RJ7 150 arraycopyName, Cond.methodLink RX1 101 yX1_isSame, Cond.instanceMethod yX1_isSame, Cond.selects RX1 yX1_isSame yX1_isSame, Cond.code yX1_isSame cX1_isSame 5 (some .boolean), Cond.methodLink RX1 68 yX1_fetch, Cond.instanceMethod yX1_fetch, Cond.selects RX1 yX1_fetch yX1_fetch, Cond.code yX1_fetch cX1_fetch 2 none, Cond.methodLink RX1 72 yX7_hasEnded, Cond.instanceMethod yX7_hasEnded, Cond.selects RX7 yX7_hasEnded yX7_hasEnded]
def wsX1_explore_r4 : List Cond := [Cond.code yX7_hasEnded cX7_hasEnded 3 (some .boolean), Cond.fieldLink RX7 36 "LitmusHall$Program" "lengths" "[I", Cond.methodLink RX1 76 yX1_addEnd, Cond.instanceMethod yX1_addEnd, Cond.selects RX1 yX1_addEnd yX1_addEnd, Cond.code yX1_addEnd cX1_addEnd 6 none, Cond.fieldLink RX1 13 "LitmusHall$Explorer" "ends" "[I", Cond.methodLink RX1 117 yX1_isBefore, Cond.instanceMethod yX1_isBefore, Cond.selects RX1 yX1_isBefore yX1_isBefore, Cond.code yX1_isBefore cX1_isBefore 6 (some .boolean), Cond.methodLink RX1 79 yX7_can, Cond.instanceMethod yX7_can, Cond.selects RX7 yX7_can yX7_can, Cond.code yX7_can cX7_can 4 (some .boolean), Cond.methodLink RX7 39 yX7_rowSize, Cond.instanceMethod yX7_rowSize, Cond.selects RX7 yX7_rowSize yX7_rowSize, Cond.code yX7_rowSize cX7_rowSize 2 (some .int), Cond.methodLink RX7 43 yX7_nextOf, Cond.instanceMethod yX7_nextOf, Cond.selects RX7 yX7_nextOf yX7_nextOf, Cond.code yX7_nextOf cX7_nextOf 2 (some .int), Cond.methodLink RX7 46 yX4_part]
def wsX1_explore_r5 : List Cond := [Cond.instanceMethod yX4_part, Cond.selects RX4 yX4_part yX4_part, Cond.initialized RX4, Cond.code yX4_part cX4_part 4 (some .int), Cond.fieldLink RX4 18 "LitmusHall$Program" "parts" "[I", Cond.methodLink RX4 31 yX4_partsAt, Cond.static yX4_partsAt, Cond.code yX4_partsAt cX4_partsAt 2 (some .int), Cond.methodLink RX7 50 yX7_waits, Cond.static yX7_waits, Cond.code yX7_waits cX7_waits 1 (some .boolean), Cond.methodLink RX7 54 yX7_isLocked, Cond.static yX7_isLocked, Cond.code yX7_isLocked cX7_isLocked 1 (some .boolean), Cond.methodLink RX1 89 yX7_move, Cond.instanceMethod yX7_move, Cond.selects RX7 yX7_move yX7_move, Cond.code yX7_move cX7_move 8 none, Cond.fieldLink RX7 61 "LitmusHall$Program" "parts" "[I", Cond.methodLink RX7 57 yX7_letGo, Cond.instanceMethod yX7_letGo, Cond.selects RX7 yX7_letGo yX7_letGo, Cond.code yX7_letGo cX7_letGo 5 none, Cond.constant RX7 89 (-524161)]
def wsX1_explore_r6 : List Cond := [Cond.methodLink RX7 86 yX7_rowCell, Cond.instanceMethod yX7_rowCell, Cond.selects RX7 yX7_rowCell yX7_rowCell, Cond.code yX7_rowCell cX7_rowCell 3 (some .int), Cond.methodLink RX7 64 yX4_partsAt, Cond.methodLink RX7 68 yX7_seen, Cond.instanceMethod yX7_seen, Cond.selects RX7 yX7_seen yX7_seen, Cond.code yX7_seen cX7_seen 4 (some .int), Cond.methodLink RX7 90 yX7_rowInt, Cond.instanceMethod yX7_rowInt, Cond.selects RX7 yX7_rowInt yX7_rowInt, Cond.code yX7_rowInt cX7_rowInt 3 (some .int), Cond.methodLink RX7 71 yX7_valueOf, Cond.instanceMethod yX7_valueOf, Cond.selects RX7 yX7_valueOf yX7_valueOf, Cond.code yX7_valueOf cX7_valueOf 5 (some .int), Cond.methodLink RX7 75 yX7_put, Cond.instanceMethod yX7_put, Cond.selects RX7 yX7_put yX7_put, Cond.code yX7_put cX7_put 6 none, Cond.methodLink RX7 79 yX7_forgetStored, Cond.instanceMethod yX7_forgetStored, Cond.selects RX7 yX7_forgetStored yX7_forgetStored]
def wsX1_explore_r7 : List Cond := [Cond.code yX7_forgetStored cX7_forgetStored 2 none, Cond.constant RX7 93 (-7864321), Cond.methodLink RX7 82 yX7_lock, Cond.instanceMethod yX7_lock, Cond.selects RX7 yX7_lock yX7_lock, Cond.code yX7_lock cX7_lock 11 none]
def wsX1_explore : List Cond := .code yX1_explore cX1_explore 5 (some .boolean) :: ((wsX1_explore_r1 ++ (wsX1_explore_r2 ++ (wsX1_explore_r3 ++ (wsX1_explore_r4 ++ (wsX1_explore_r5 ++ (wsX1_explore_r6 ++ wsX1_explore_r7)))))) ++ wsX10 ++ wsX70 ++ wsX40)
def wsX2_intOf : List Cond := .code yX2_intOf cX2_intOf 3 (some .int) :: ([.fieldLink RX2 11 "LitmusHall$Findings" "records" "[I"] ++ wsX20)
def wsX1_intOf : List Cond := .code yX1_intOf cX1_intOf 3 (some .int) :: ([.fieldLink RX1 32 "LitmusHall$Explorer" "rows" "[I", .fieldLink RX1 28 "LitmusHall$Explorer" "width" "I"] ++ wsX10)
def wsX2_isSame : List Cond := .code yX2_isSame cX2_isSame 4 (some .boolean) :: ([.fieldLink RX2 31 "LitmusHall$Explorer" "endSize" "I", .fieldLink RX2 34 "LitmusHall$Findings" "size" "I", .fieldLink RX2 45 "LitmusHall$Explorer" "ends" "[I", .methodLink RX2 68 yX2_intOf, .instanceMethod yX2_intOf, .selects RX2 yX2_intOf yX2_intOf, .initialized RX2, .code yX2_intOf cX2_intOf 3 (some .int), .fieldLink RX2 11 "LitmusHall$Findings" "records" "[I", .methodLink RX2 48 yX1_intOf, .instanceMethod yX1_intOf, .selects RX1 yX1_intOf yX1_intOf, .initialized RX1, .code yX1_intOf cX1_intOf 3 (some .int), .fieldLink RX1 32 "LitmusHall$Explorer" "rows" "[I", .fieldLink RX1 28 "LitmusHall$Explorer" "width" "I"] ++ wsX10 ++ wsX20)
def wsX0_lookAtSize_r1 : List Cond := [Cond.fieldLink RX0 22 "LitmusHall$Cure" "looked" "[I", Cond.fieldLink RX0 12 "LitmusHall$Cure" "fenced" "LLitmusHall$Program;", Cond.methodLink RX0 51 yX4_placesInAll, Cond.instanceMethod yX4_placesInAll, Cond.selects RX4 yX4_placesInAll yX4_placesInAll, Cond.initialized RX4, Cond.code yX4_placesInAll cX4_placesInAll 3 (some .int), Cond.fieldLink RX4 21 "LitmusHall$Program" "cores" "I", Cond.fieldLink RX4 9 "LitmusHall$Program" "lengths" "[I", Cond.methodLink RX4 35 Lib.Math.max.name, Cond.static Lib.Math.max.name, Cond.initialized "java/lang/Math", Cond.code Lib.Math.max.name Lib.Math.max.code 2 (some .int), Cond.methodLink RX0 55 yX4_placeOf, Cond.instanceMethod yX4_placeOf, Cond.selects RX4 yX4_placeOf yX4_placeOf, Cond.code yX4_placeOf cX4_placeOf 5 (some .int), Cond.methodLink RX0 59 yX4_becomeFenced, Cond.instanceMethod yX4_becomeFenced, Cond.selects RX4 yX4_becomeFenced yX4_becomeFenced, Cond.code yX4_becomeFenced cX4_becomeFenced 9 none, Cond.fieldLink RX4 15 "LitmusHall$Program" "cells" "[I", Cond.methodLink RX4 43 arraycopyName, Cond.native arraycopyName]
def wsX0_lookAtSize_r2 : List Cond := [Cond.static arraycopyName, Cond.initialized "java/lang/System", Cond.methodLink RX4 40 yX4_clear, Cond.instanceMethod yX4_clear, Cond.selects RX4 yX4_clear yX4_clear, Cond.code yX4_clear cX4_clear 1 none, Cond.methodLink RX4 25 yJ7_fill_53178, Cond.static yJ7_fill_53178, Cond.initialized RJ7, Cond.code yJ7_fill_53178 cJ7_fill_53178 4 none, Cond.methodLink RX4 49 yX4_hasRoom, Cond.instanceMethod yX4_hasRoom, Cond.selects RX4 yX4_hasRoom yX4_hasRoom, Cond.code yX4_hasRoom cX4_hasRoom 2 (some .boolean), Cond.methodLink RX4 53 yX4_addBlank, Cond.instanceMethod yX4_addBlank, Cond.selects RX4 yX4_addBlank yX4_addBlank, Cond.code yX4_addBlank cX4_addBlank 4 (some .int), Cond.fieldLink RX4 18 "LitmusHall$Program" "parts" "[I", Cond.methodLink RX4 31 yX4_partsAt, Cond.static yX4_partsAt, Cond.code yX4_partsAt cX4_partsAt 2 (some .int), Cond.methodLink RX4 56 yX4_part, Cond.instanceMethod yX4_part]
def wsX0_lookAtSize_r3 : List Cond := [Cond.selects RX4 yX4_part yX4_part, Cond.code yX4_part cX4_part 4 (some .int), Cond.methodLink RX4 60 yX4_within, Cond.static yX4_within, Cond.code yX4_within cX4_within 3 (some .int), Cond.methodLink RX4 63 yX4_copyIns, Cond.instanceMethod yX4_copyIns, Cond.selects RX4 yX4_copyIns yX4_copyIns, Cond.code yX4_copyIns cX4_copyIns 7 none, Cond.methodLink RX0 63 yX1_explore, Cond.instanceMethod yX1_explore, Cond.selects RX1 yX1_explore yX1_explore, Cond.initialized RX1, Cond.code yX1_explore cX1_explore 5 (some .boolean), Cond.fieldLink RX1 35 "LitmusHall$Explorer" "slots" "[I", Cond.fieldLink RX1 47 "LitmusHall$Explorer" "size" "I", Cond.fieldLink RX1 50 "LitmusHall$Explorer" "endSize" "I", Cond.fieldLink RX1 28 "LitmusHall$Explorer" "width" "I", Cond.fieldLink RX1 21 "LitmusHall$Explorer" "state" "LLitmusHall$State;", Cond.fieldLink RX1 61 "LitmusHall$State" "words" "[I", Cond.fieldLink RX1 25 "LitmusHall$Explorer" "moved" "LLitmusHall$State;", Cond.methodLink RX1 83 arraycopyName, Cond.methodLink RX1 41 yJ7_fill_53178, Cond.methodLink RX1 53 yX7_widthOf]
def wsX0_lookAtSize_r4 : List Cond := [Cond.static yX7_widthOf, Cond.initialized RX7, Cond.code yX7_widthOf cX7_widthOf 2 (some .int), Cond.fieldLink RX7 15 "LitmusHall$Program" "cores" "I", Cond.methodLink RX1 57 yX7_start, Cond.instanceMethod yX7_start, Cond.selects RX7 yX7_start yX7_start, Cond.code yX7_start cX7_start 2 none, Cond.fieldLink RX7 11 "LitmusHall$State" "words" "[I", Cond.fieldLink RX7 27 "LitmusHall$Program" "cells" "[I", Cond.methodLink RX7 30 arraycopyName, Cond.methodLink RX7 21 yJ7_fill_53178, Cond.methodLink RX1 64 yX1_keep, Cond.instanceMethod yX1_keep, Cond.selects RX1 yX1_keep yX1_keep, Cond.code yX1_keep cX1_keep 7 (some .boolean), Cond.methodLink RX1 93 yX1_hashOf, Cond.instanceMethod yX1_hashOf, Cond.selects RX1 yX1_hashOf yX1_hashOf, Cond.code yX1_hashOf cX1_hashOf 4 (some .int), Cond.constant RX1 105 (-2048144789), Cond.methodLink RX1 97 yX1_add, Cond.instanceMethod yX1_add, Cond.selects RX1 yX1_add yX1_add]
def wsX0_lookAtSize_r5 : List Cond := [Cond.code yX1_add cX1_add 5 (some .boolean), Cond.fieldLink RX1 32 "LitmusHall$Explorer" "rows" "[I", Cond.constant RX1 106 (102000), Cond.methodLink RX1 107 Lib.Math.min.name, Cond.static Lib.Math.min.name, Cond.code Lib.Math.min.name Lib.Math.min.code 2 (some .int), Cond.fieldLink RX1 38 "LitmusHall$Explorer" "came" "[I", Cond.methodLink RX1 113 yJ7_copyOf_59c91, Cond.static yJ7_copyOf_59c91, Cond.code yJ7_copyOf_59c91 cJ7_copyOf_59c91 3 (some (.array .int)), Cond.methodLink RJ7 316 ⟨"[I", "clone", "()Ljava/lang/Object;"⟩, Cond.sameMethod "[I" "java/lang/Object" "clone" "()Ljava/lang/Object;", Cond.native ⟨"java/lang/Object", "clone", "()Ljava/lang/Object;"⟩, Cond.instanceMethod ⟨"java/lang/Object", "clone", "()Ljava/lang/Object;"⟩, Cond.selects "[I" ⟨"[I", "clone", "()Ljava/lang/Object;"⟩ ⟨"java/lang/Object", "clone", "()Ljava/lang/Object;"⟩, Cond.classLink RJ7 317 "[I", Cond.arrayClass .int, Cond.methodLink RJ7 304 Lib.Math.min.name, Cond.methodLink RJ7 150 arraycopyName, Cond.methodLink RX1 101 yX1_isSame, Cond.instanceMethod yX1_isSame, Cond.selects RX1 yX1_isSame yX1_isSame, Cond.code yX1_isSame cX1_isSame 5 (some .boolean), Cond.methodLink RX1 68 yX1_fetch]
def wsX0_lookAtSize_r6 : List Cond := [Cond.instanceMethod yX1_fetch, Cond.selects RX1 yX1_fetch yX1_fetch, Cond.code yX1_fetch cX1_fetch 2 none, Cond.methodLink RX1 72 yX7_hasEnded, Cond.instanceMethod yX7_hasEnded, Cond.selects RX7 yX7_hasEnded yX7_hasEnded, Cond.code yX7_hasEnded cX7_hasEnded 3 (some .boolean), Cond.fieldLink RX7 36 "LitmusHall$Program" "lengths" "[I", Cond.methodLink RX1 76 yX1_addEnd, Cond.instanceMethod yX1_addEnd, Cond.selects RX1 yX1_addEnd yX1_addEnd, Cond.code yX1_addEnd cX1_addEnd 6 none, Cond.fieldLink RX1 13 "LitmusHall$Explorer" "ends" "[I", Cond.methodLink RX1 117 yX1_isBefore, Cond.instanceMethod yX1_isBefore, Cond.selects RX1 yX1_isBefore yX1_isBefore, Cond.code yX1_isBefore cX1_isBefore 6 (some .boolean), Cond.methodLink RX1 79 yX7_can, Cond.instanceMethod yX7_can, Cond.selects RX7 yX7_can yX7_can, Cond.code yX7_can cX7_can 4 (some .boolean), Cond.methodLink RX7 39 yX7_rowSize, Cond.instanceMethod yX7_rowSize, Cond.selects RX7 yX7_rowSize yX7_rowSize]
def wsX0_lookAtSize_r7 : List Cond := [Cond.code yX7_rowSize cX7_rowSize 2 (some .int), Cond.methodLink RX7 43 yX7_nextOf, Cond.instanceMethod yX7_nextOf, Cond.selects RX7 yX7_nextOf yX7_nextOf, Cond.code yX7_nextOf cX7_nextOf 2 (some .int), Cond.methodLink RX7 46 yX4_part, Cond.methodLink RX7 50 yX7_waits, Cond.static yX7_waits, Cond.code yX7_waits cX7_waits 1 (some .boolean), Cond.methodLink RX7 54 yX7_isLocked, Cond.static yX7_isLocked, Cond.code yX7_isLocked cX7_isLocked 1 (some .boolean), Cond.methodLink RX1 89 yX7_move, Cond.instanceMethod yX7_move, Cond.selects RX7 yX7_move yX7_move, Cond.code yX7_move cX7_move 8 none, Cond.fieldLink RX7 61 "LitmusHall$Program" "parts" "[I", Cond.methodLink RX7 57 yX7_letGo, Cond.instanceMethod yX7_letGo, Cond.selects RX7 yX7_letGo yX7_letGo, Cond.code yX7_letGo cX7_letGo 5 none, Cond.constant RX7 89 (-524161), Cond.methodLink RX7 86 yX7_rowCell, Cond.instanceMethod yX7_rowCell]
def wsX0_lookAtSize_r8 : List Cond := [Cond.selects RX7 yX7_rowCell yX7_rowCell, Cond.code yX7_rowCell cX7_rowCell 3 (some .int), Cond.methodLink RX7 64 yX4_partsAt, Cond.methodLink RX7 68 yX7_seen, Cond.instanceMethod yX7_seen, Cond.selects RX7 yX7_seen yX7_seen, Cond.code yX7_seen cX7_seen 4 (some .int), Cond.methodLink RX7 90 yX7_rowInt, Cond.instanceMethod yX7_rowInt, Cond.selects RX7 yX7_rowInt yX7_rowInt, Cond.code yX7_rowInt cX7_rowInt 3 (some .int), Cond.methodLink RX7 71 yX7_valueOf, Cond.instanceMethod yX7_valueOf, Cond.selects RX7 yX7_valueOf yX7_valueOf, Cond.code yX7_valueOf cX7_valueOf 5 (some .int), Cond.methodLink RX7 75 yX7_put, Cond.instanceMethod yX7_put, Cond.selects RX7 yX7_put yX7_put, Cond.code yX7_put cX7_put 6 none, Cond.methodLink RX7 79 yX7_forgetStored, Cond.instanceMethod yX7_forgetStored, Cond.selects RX7 yX7_forgetStored yX7_forgetStored, Cond.code yX7_forgetStored cX7_forgetStored 2 none, Cond.constant RX7 93 (-7864321)]
def wsX0_lookAtSize_r9 : List Cond := [Cond.methodLink RX7 82 yX7_lock, Cond.instanceMethod yX7_lock, Cond.selects RX7 yX7_lock yX7_lock, Cond.code yX7_lock cX7_lock 11 none, Cond.methodLink RX0 69 yX2_isSame, Cond.instanceMethod yX2_isSame, Cond.selects RX2 yX2_isSame yX2_isSame, Cond.initialized RX2, Cond.code yX2_isSame cX2_isSame 4 (some .boolean), Cond.fieldLink RX2 31 "LitmusHall$Explorer" "endSize" "I", Cond.fieldLink RX2 34 "LitmusHall$Findings" "size" "I", Cond.fieldLink RX2 45 "LitmusHall$Explorer" "ends" "[I", Cond.methodLink RX2 68 yX2_intOf, Cond.instanceMethod yX2_intOf, Cond.selects RX2 yX2_intOf yX2_intOf, Cond.code yX2_intOf cX2_intOf 3 (some .int), Cond.fieldLink RX2 11 "LitmusHall$Findings" "records" "[I", Cond.methodLink RX2 48 yX1_intOf, Cond.instanceMethod yX1_intOf, Cond.selects RX1 yX1_intOf yX1_intOf, Cond.code yX1_intOf cX1_intOf 3 (some .int)]
def wsX0_lookAtSize : List Cond := .code yX0_lookAtSize cX0_lookAtSize 10 (some .int) :: ((wsX0_lookAtSize_r1 ++ (wsX0_lookAtSize_r2 ++ (wsX0_lookAtSize_r3 ++ (wsX0_lookAtSize_r4 ++ (wsX0_lookAtSize_r5 ++ (wsX0_lookAtSize_r6 ++ (wsX0_lookAtSize_r7 ++ (wsX0_lookAtSize_r8 ++ wsX0_lookAtSize_r9)))))))) ++ wsX00 ++ wsX40 ++ wsX10 ++ wsX70 ++ wsX20)
def wsX0_least_r1 : List Cond := [Cond.fieldLink RX0 29 "LitmusHall$Cure" "lookedSizes" "I", Cond.fieldLink RX0 18 "LitmusHall$Cure" "answer" "I", Cond.fieldLink RX0 32 "LitmusHall$Findings" "full" "Z", Cond.fieldLink RX0 42 "LitmusHall$Cure" "toldSize" "I", Cond.fieldLink RX0 22 "LitmusHall$Cure" "looked" "[I", Cond.fieldLink RX0 26 "LitmusHall$Cure" "told" "[I", Cond.methodLink RX0 45 arraycopyName, Cond.native arraycopyName, Cond.static arraycopyName, Cond.initialized "java/lang/System", Cond.methodLink RX0 38 yX0_lookAtSize, Cond.instanceMethod yX0_lookAtSize, Cond.selects RX0 yX0_lookAtSize yX0_lookAtSize, Cond.initialized RX0, Cond.code yX0_lookAtSize cX0_lookAtSize 10 (some .int), Cond.fieldLink RX0 12 "LitmusHall$Cure" "fenced" "LLitmusHall$Program;", Cond.methodLink RX0 51 yX4_placesInAll, Cond.instanceMethod yX4_placesInAll, Cond.selects RX4 yX4_placesInAll yX4_placesInAll, Cond.initialized RX4, Cond.code yX4_placesInAll cX4_placesInAll 3 (some .int), Cond.fieldLink RX4 21 "LitmusHall$Program" "cores" "I", Cond.fieldLink RX4 9 "LitmusHall$Program" "lengths" "[I", Cond.methodLink RX4 35 Lib.Math.max.name]
def wsX0_least_r2 : List Cond := [Cond.static Lib.Math.max.name, Cond.initialized "java/lang/Math", Cond.code Lib.Math.max.name Lib.Math.max.code 2 (some .int), Cond.methodLink RX0 55 yX4_placeOf, Cond.instanceMethod yX4_placeOf, Cond.selects RX4 yX4_placeOf yX4_placeOf, Cond.code yX4_placeOf cX4_placeOf 5 (some .int), Cond.methodLink RX0 59 yX4_becomeFenced, Cond.instanceMethod yX4_becomeFenced, Cond.selects RX4 yX4_becomeFenced yX4_becomeFenced, Cond.code yX4_becomeFenced cX4_becomeFenced 9 none, Cond.fieldLink RX4 15 "LitmusHall$Program" "cells" "[I", Cond.methodLink RX4 43 arraycopyName, Cond.methodLink RX4 40 yX4_clear, Cond.instanceMethod yX4_clear, Cond.selects RX4 yX4_clear yX4_clear, Cond.code yX4_clear cX4_clear 1 none, Cond.methodLink RX4 25 yJ7_fill_53178, Cond.static yJ7_fill_53178, Cond.initialized RJ7, Cond.code yJ7_fill_53178 cJ7_fill_53178 4 none, Cond.methodLink RX4 49 yX4_hasRoom, Cond.instanceMethod yX4_hasRoom, Cond.selects RX4 yX4_hasRoom yX4_hasRoom]
def wsX0_least_r3 : List Cond := [Cond.code yX4_hasRoom cX4_hasRoom 2 (some .boolean), Cond.methodLink RX4 53 yX4_addBlank, Cond.instanceMethod yX4_addBlank, Cond.selects RX4 yX4_addBlank yX4_addBlank, Cond.code yX4_addBlank cX4_addBlank 4 (some .int), Cond.fieldLink RX4 18 "LitmusHall$Program" "parts" "[I", Cond.methodLink RX4 31 yX4_partsAt, Cond.static yX4_partsAt, Cond.code yX4_partsAt cX4_partsAt 2 (some .int), Cond.methodLink RX4 56 yX4_part, Cond.instanceMethod yX4_part, Cond.selects RX4 yX4_part yX4_part, Cond.code yX4_part cX4_part 4 (some .int), Cond.methodLink RX4 60 yX4_within, Cond.static yX4_within, Cond.code yX4_within cX4_within 3 (some .int), Cond.methodLink RX4 63 yX4_copyIns, Cond.instanceMethod yX4_copyIns, Cond.selects RX4 yX4_copyIns yX4_copyIns, Cond.code yX4_copyIns cX4_copyIns 7 none, Cond.methodLink RX0 63 yX1_explore, Cond.instanceMethod yX1_explore, Cond.selects RX1 yX1_explore yX1_explore, Cond.initialized RX1]
def wsX0_least_r4 : List Cond := [Cond.code yX1_explore cX1_explore 5 (some .boolean), Cond.fieldLink RX1 35 "LitmusHall$Explorer" "slots" "[I", Cond.fieldLink RX1 47 "LitmusHall$Explorer" "size" "I", Cond.fieldLink RX1 50 "LitmusHall$Explorer" "endSize" "I", Cond.fieldLink RX1 28 "LitmusHall$Explorer" "width" "I", Cond.fieldLink RX1 21 "LitmusHall$Explorer" "state" "LLitmusHall$State;", Cond.fieldLink RX1 61 "LitmusHall$State" "words" "[I", Cond.fieldLink RX1 25 "LitmusHall$Explorer" "moved" "LLitmusHall$State;", Cond.methodLink RX1 83 arraycopyName, Cond.methodLink RX1 41 yJ7_fill_53178, Cond.methodLink RX1 53 yX7_widthOf, Cond.static yX7_widthOf, Cond.initialized RX7, Cond.code yX7_widthOf cX7_widthOf 2 (some .int), Cond.fieldLink RX7 15 "LitmusHall$Program" "cores" "I", Cond.methodLink RX1 57 yX7_start, Cond.instanceMethod yX7_start, Cond.selects RX7 yX7_start yX7_start, Cond.code yX7_start cX7_start 2 none, Cond.fieldLink RX7 11 "LitmusHall$State" "words" "[I", Cond.fieldLink RX7 27 "LitmusHall$Program" "cells" "[I", Cond.methodLink RX7 30 arraycopyName, Cond.methodLink RX7 21 yJ7_fill_53178, Cond.methodLink RX1 64 yX1_keep]
def wsX0_least_r5 : List Cond := [Cond.instanceMethod yX1_keep, Cond.selects RX1 yX1_keep yX1_keep, Cond.code yX1_keep cX1_keep 7 (some .boolean), Cond.methodLink RX1 93 yX1_hashOf, Cond.instanceMethod yX1_hashOf, Cond.selects RX1 yX1_hashOf yX1_hashOf, Cond.code yX1_hashOf cX1_hashOf 4 (some .int), Cond.constant RX1 105 (-2048144789), Cond.methodLink RX1 97 yX1_add, Cond.instanceMethod yX1_add, Cond.selects RX1 yX1_add yX1_add, Cond.code yX1_add cX1_add 5 (some .boolean), Cond.fieldLink RX1 32 "LitmusHall$Explorer" "rows" "[I", Cond.constant RX1 106 (102000), Cond.methodLink RX1 107 Lib.Math.min.name, Cond.static Lib.Math.min.name, Cond.code Lib.Math.min.name Lib.Math.min.code 2 (some .int), Cond.fieldLink RX1 38 "LitmusHall$Explorer" "came" "[I", Cond.methodLink RX1 113 yJ7_copyOf_59c91, Cond.static yJ7_copyOf_59c91, Cond.code yJ7_copyOf_59c91 cJ7_copyOf_59c91 3 (some (.array .int)), Cond.methodLink RJ7 316 ⟨"[I", "clone", "()Ljava/lang/Object;"⟩, Cond.sameMethod "[I" "java/lang/Object" "clone" "()Ljava/lang/Object;", Cond.native ⟨"java/lang/Object", "clone", "()Ljava/lang/Object;"⟩]
def wsX0_least_r6 : List Cond := [Cond.instanceMethod ⟨"java/lang/Object", "clone", "()Ljava/lang/Object;"⟩, Cond.selects "[I" ⟨"[I", "clone", "()Ljava/lang/Object;"⟩ ⟨"java/lang/Object", "clone", "()Ljava/lang/Object;"⟩, Cond.classLink RJ7 317 "[I", Cond.arrayClass .int, Cond.methodLink RJ7 304 Lib.Math.min.name, Cond.methodLink RJ7 150 arraycopyName, Cond.methodLink RX1 101 yX1_isSame, Cond.instanceMethod yX1_isSame, Cond.selects RX1 yX1_isSame yX1_isSame, Cond.code yX1_isSame cX1_isSame 5 (some .boolean), Cond.methodLink RX1 68 yX1_fetch, Cond.instanceMethod yX1_fetch, Cond.selects RX1 yX1_fetch yX1_fetch, Cond.code yX1_fetch cX1_fetch 2 none, Cond.methodLink RX1 72 yX7_hasEnded, Cond.instanceMethod yX7_hasEnded, Cond.selects RX7 yX7_hasEnded yX7_hasEnded, Cond.code yX7_hasEnded cX7_hasEnded 3 (some .boolean), Cond.fieldLink RX7 36 "LitmusHall$Program" "lengths" "[I", Cond.methodLink RX1 76 yX1_addEnd, Cond.instanceMethod yX1_addEnd, Cond.selects RX1 yX1_addEnd yX1_addEnd, Cond.code yX1_addEnd cX1_addEnd 6 none, Cond.fieldLink RX1 13 "LitmusHall$Explorer" "ends" "[I"]
def wsX0_least_r7 : List Cond := [Cond.methodLink RX1 117 yX1_isBefore, Cond.instanceMethod yX1_isBefore, Cond.selects RX1 yX1_isBefore yX1_isBefore, Cond.code yX1_isBefore cX1_isBefore 6 (some .boolean), Cond.methodLink RX1 79 yX7_can, Cond.instanceMethod yX7_can, Cond.selects RX7 yX7_can yX7_can, Cond.code yX7_can cX7_can 4 (some .boolean), Cond.methodLink RX7 39 yX7_rowSize, Cond.instanceMethod yX7_rowSize, Cond.selects RX7 yX7_rowSize yX7_rowSize, Cond.code yX7_rowSize cX7_rowSize 2 (some .int), Cond.methodLink RX7 43 yX7_nextOf, Cond.instanceMethod yX7_nextOf, Cond.selects RX7 yX7_nextOf yX7_nextOf, Cond.code yX7_nextOf cX7_nextOf 2 (some .int), Cond.methodLink RX7 46 yX4_part, Cond.methodLink RX7 50 yX7_waits, Cond.static yX7_waits, Cond.code yX7_waits cX7_waits 1 (some .boolean), Cond.methodLink RX7 54 yX7_isLocked, Cond.static yX7_isLocked, Cond.code yX7_isLocked cX7_isLocked 1 (some .boolean), Cond.methodLink RX1 89 yX7_move]
def wsX0_least_r8 : List Cond := [Cond.instanceMethod yX7_move, Cond.selects RX7 yX7_move yX7_move, Cond.code yX7_move cX7_move 8 none, Cond.fieldLink RX7 61 "LitmusHall$Program" "parts" "[I", Cond.methodLink RX7 57 yX7_letGo, Cond.instanceMethod yX7_letGo, Cond.selects RX7 yX7_letGo yX7_letGo, Cond.code yX7_letGo cX7_letGo 5 none, Cond.constant RX7 89 (-524161), Cond.methodLink RX7 86 yX7_rowCell, Cond.instanceMethod yX7_rowCell, Cond.selects RX7 yX7_rowCell yX7_rowCell, Cond.code yX7_rowCell cX7_rowCell 3 (some .int), Cond.methodLink RX7 64 yX4_partsAt, Cond.methodLink RX7 68 yX7_seen, Cond.instanceMethod yX7_seen, Cond.selects RX7 yX7_seen yX7_seen, Cond.code yX7_seen cX7_seen 4 (some .int), Cond.methodLink RX7 90 yX7_rowInt, Cond.instanceMethod yX7_rowInt, Cond.selects RX7 yX7_rowInt yX7_rowInt, Cond.code yX7_rowInt cX7_rowInt 3 (some .int), Cond.methodLink RX7 71 yX7_valueOf, Cond.instanceMethod yX7_valueOf]
def wsX0_least_r9 : List Cond := [Cond.selects RX7 yX7_valueOf yX7_valueOf, Cond.code yX7_valueOf cX7_valueOf 5 (some .int), Cond.methodLink RX7 75 yX7_put, Cond.instanceMethod yX7_put, Cond.selects RX7 yX7_put yX7_put, Cond.code yX7_put cX7_put 6 none, Cond.methodLink RX7 79 yX7_forgetStored, Cond.instanceMethod yX7_forgetStored, Cond.selects RX7 yX7_forgetStored yX7_forgetStored, Cond.code yX7_forgetStored cX7_forgetStored 2 none, Cond.constant RX7 93 (-7864321), Cond.methodLink RX7 82 yX7_lock, Cond.instanceMethod yX7_lock, Cond.selects RX7 yX7_lock yX7_lock, Cond.code yX7_lock cX7_lock 11 none, Cond.methodLink RX0 69 yX2_isSame, Cond.instanceMethod yX2_isSame, Cond.selects RX2 yX2_isSame yX2_isSame, Cond.initialized RX2, Cond.code yX2_isSame cX2_isSame 4 (some .boolean), Cond.fieldLink RX2 31 "LitmusHall$Explorer" "endSize" "I", Cond.fieldLink RX2 34 "LitmusHall$Findings" "size" "I", Cond.fieldLink RX2 45 "LitmusHall$Explorer" "ends" "[I", Cond.methodLink RX2 68 yX2_intOf]
def wsX0_least_r10 : List Cond := [Cond.instanceMethod yX2_intOf, Cond.selects RX2 yX2_intOf yX2_intOf, Cond.code yX2_intOf cX2_intOf 3 (some .int), Cond.fieldLink RX2 11 "LitmusHall$Findings" "records" "[I", Cond.methodLink RX2 48 yX1_intOf, Cond.instanceMethod yX1_intOf, Cond.selects RX1 yX1_intOf yX1_intOf, Cond.code yX1_intOf cX1_intOf 3 (some .int)]
def wsX0_least : List Cond := .code yX0_least cX0_least 6 (some .int) :: ((wsX0_least_r1 ++ (wsX0_least_r2 ++ (wsX0_least_r3 ++ (wsX0_least_r4 ++ (wsX0_least_r5 ++ (wsX0_least_r6 ++ (wsX0_least_r7 ++ (wsX0_least_r8 ++ (wsX0_least_r9 ++ wsX0_least_r10))))))))) ++ wsX00 ++ wsX20 ++ wsX40 ++ wsX10 ++ wsX70)
def wsX0_toldPlace : List Cond := .code yX0_toldPlace cX0_toldPlace 2 (some .int) :: ([.fieldLink RX0 42 "LitmusHall$Cure" "toldSize" "I", .fieldLink RX0 26 "LitmusHall$Cure" "told" "[I"] ++ wsX00)
def wsX7_init : List Cond := .code yX7_init cX7_init 1 none :: ([.methodLink RX7 5 objectInit, .instanceMethod objectInit, .code objectInit ⟨#[0xb1]⟩ 1 none, .arrayClass .int, .fieldLink RX7 11 "LitmusHall$State" "words" "[I"] ++ wsX70)
def wsX1_init : List Cond := .code yX1_init cX1_init 1 none :: ([.methodLink RX1 7 objectInit, .instanceMethod objectInit, .code objectInit ⟨#[0xb1]⟩ 1 none, .arrayClass .int, .fieldLink RX1 13 "LitmusHall$Explorer" "ends" "[I", .fieldLink RX1 17 "LitmusHall$Explorer" "path" "[I", .classLink RX1 3 RX7, .instantiable RX7 1, .initialized RX7, .fieldLink RX1 21 "LitmusHall$Explorer" "state" "LLitmusHall$State;", .fieldLink RX1 25 "LitmusHall$Explorer" "moved" "LLitmusHall$State;", .fieldLink RX1 28 "LitmusHall$Explorer" "width" "I", .fieldLink RX1 32 "LitmusHall$Explorer" "rows" "[I", .fieldLink RX1 35 "LitmusHall$Explorer" "slots" "[I", .fieldLink RX1 38 "LitmusHall$Explorer" "came" "[I", .instanceMethod yX7_init, .code yX7_init cX7_init 1 none, .methodLink RX7 5 objectInit, .fieldLink RX7 11 "LitmusHall$State" "words" "[I"] ++ wsX10 ++ wsX70)
def wsX1_pathTo : List Cond := .code yX1_pathTo cX1_pathTo 6 (some .int) :: ([.fieldLink RX1 38 "LitmusHall$Explorer" "came" "[I", .fieldLink RX1 17 "LitmusHall$Explorer" "path" "[I"] ++ wsX10)
def wsX2_init : List Cond := .code yX2_init cX2_init 1 none :: ([.methodLink RX2 5 objectInit, .instanceMethod objectInit, .code objectInit ⟨#[0xb1]⟩ 1 none, .arrayClass .int, .fieldLink RX2 11 "LitmusHall$Findings" "records" "[I"] ++ wsX20)
def wsJ7_rangeCheck_23922 : List Cond := .code yJ7_rangeCheck_23922 cJ7_rangeCheck_23922 3 none :: ([])
def wsJ7_fill_fda19 : List Cond := .code yJ7_fill_fda19 cJ7_fill_fda19 5 none :: ([.methodLink RJ7 13 yJ7_rangeCheck_23922, .static yJ7_rangeCheck_23922, .initialized RJ7, .code yJ7_rangeCheck_23922 cJ7_rangeCheck_23922 3 none])
def wsX2_record : List Cond := .code yX2_record cX2_record 8 none :: ([.fieldLink RX2 45 "LitmusHall$Explorer" "ends" "[I", .fieldLink RX2 11 "LitmusHall$Findings" "records" "[I", .fieldLink RX2 61 "LitmusHall$Explorer" "path" "[I", .methodLink RX2 48 yX1_intOf, .instanceMethod yX1_intOf, .selects RX1 yX1_intOf yX1_intOf, .initialized RX1, .code yX1_intOf cX1_intOf 3 (some .int), .fieldLink RX1 32 "LitmusHall$Explorer" "rows" "[I", .fieldLink RX1 28 "LitmusHall$Explorer" "width" "I", .methodLink RX2 51 yJ7_fill_fda19, .static yJ7_fill_fda19, .initialized RJ7, .code yJ7_fill_fda19 cJ7_fill_fda19 5 none, .methodLink RJ7 13 yJ7_rangeCheck_23922, .static yJ7_rangeCheck_23922, .code yJ7_rangeCheck_23922 cJ7_rangeCheck_23922 3 none, .methodLink RX2 57 yX1_pathTo, .instanceMethod yX1_pathTo, .selects RX1 yX1_pathTo yX1_pathTo, .code yX1_pathTo cX1_pathTo 6 (some .int), .fieldLink RX1 38 "LitmusHall$Explorer" "came" "[I", .fieldLink RX1 17 "LitmusHall$Explorer" "path" "[I"] ++ wsX10 ++ wsX20)
def wsX2_fill_r1 : List Cond := [Cond.fieldLink RX2 15 "LitmusHall$Findings" "known" "Z", Cond.fieldLink RX2 19 "LitmusHall$Findings" "full" "Z", Cond.fieldLink RX2 22 "LitmusHall$Explorer" "size" "I", Cond.fieldLink RX2 28 "LitmusHall$Findings" "states" "I", Cond.fieldLink RX2 31 "LitmusHall$Explorer" "endSize" "I", Cond.fieldLink RX2 34 "LitmusHall$Findings" "size" "I", Cond.fieldLink RX2 11 "LitmusHall$Findings" "records" "[I", Cond.methodLink RX2 35 Lib.Math.min.name, Cond.static Lib.Math.min.name, Cond.initialized "java/lang/Math", Cond.code Lib.Math.min.name Lib.Math.min.code 2 (some .int), Cond.arrayClass .int, Cond.methodLink RX2 41 yX2_record, Cond.instanceMethod yX2_record, Cond.selects RX2 yX2_record yX2_record, Cond.initialized RX2, Cond.code yX2_record cX2_record 8 none, Cond.fieldLink RX2 45 "LitmusHall$Explorer" "ends" "[I", Cond.fieldLink RX2 61 "LitmusHall$Explorer" "path" "[I", Cond.methodLink RX2 48 yX1_intOf, Cond.instanceMethod yX1_intOf, Cond.selects RX1 yX1_intOf yX1_intOf, Cond.initialized RX1, Cond.code yX1_intOf cX1_intOf 3 (some .int)]
def wsX2_fill_r2 : List Cond := [Cond.fieldLink RX1 32 "LitmusHall$Explorer" "rows" "[I", Cond.fieldLink RX1 28 "LitmusHall$Explorer" "width" "I", Cond.methodLink RX2 51 yJ7_fill_fda19, Cond.static yJ7_fill_fda19, Cond.initialized RJ7, Cond.code yJ7_fill_fda19 cJ7_fill_fda19 5 none, Cond.methodLink RJ7 13 yJ7_rangeCheck_23922, Cond.static yJ7_rangeCheck_23922, Cond.code yJ7_rangeCheck_23922 cJ7_rangeCheck_23922 3 none, Cond.methodLink RX2 57 yX1_pathTo, Cond.instanceMethod yX1_pathTo, Cond.selects RX1 yX1_pathTo yX1_pathTo, Cond.code yX1_pathTo cX1_pathTo 6 (some .int), Cond.fieldLink RX1 38 "LitmusHall$Explorer" "came" "[I", Cond.fieldLink RX1 17 "LitmusHall$Explorer" "path" "[I"]
def wsX2_fill : List Cond := .code yX2_fill cX2_fill 4 none :: ((wsX2_fill_r1 ++ wsX2_fill_r2) ++ wsX20 ++ wsX10)
def wsX2_has : List Cond := .code yX2_has cX2_has 2 (some .boolean) :: ([.fieldLink RX2 34 "LitmusHall$Findings" "size" "I"] ++ wsX20)
def wsX2_stepOf : List Cond := .code yX2_stepOf cX2_stepOf 4 (some .int) :: ([.fieldLink RX2 11 "LitmusHall$Findings" "records" "[I"] ++ wsX20)
def wsX2_statesOrNone : List Cond := .code yX2_statesOrNone cX2_statesOrNone 1 (some .int) :: ([.fieldLink RX2 19 "LitmusHall$Findings" "full" "Z", .fieldLink RX2 28 "LitmusHall$Findings" "states" "I"] ++ wsX20)
def wsX2_sizeOrNone : List Cond := .code yX2_sizeOrNone cX2_sizeOrNone 1 (some .int) :: ([.fieldLink RX2 19 "LitmusHall$Findings" "full" "Z", .fieldLink RX2 34 "LitmusHall$Findings" "size" "I"] ++ wsX20)
def wsJ6_compare_7cf53 : List Cond := .code yJ6_compare_7cf53 cJ6_compare_7cf53 2 (some .int) :: ([])
def wsX2_compare : List Cond := .code yX2_compare cX2_compare 6 (some .int) :: ([.methodLink RX2 68 yX2_intOf, .instanceMethod yX2_intOf, .selects RX2 yX2_intOf yX2_intOf, .initialized RX2, .code yX2_intOf cX2_intOf 3 (some .int), .fieldLink RX2 11 "LitmusHall$Findings" "records" "[I", .methodLink RX2 69 yJ6_compare_7cf53, .static yJ6_compare_7cf53, .initialized RJ6, .code yJ6_compare_7cf53 cJ6_compare_7cf53 2 (some .int)] ++ wsX20)
def wsX2_numberOfOther : List Cond := .code yX2_numberOfOther cX2_numberOfOther 6 (some .int) :: ([.fieldLink RX2 34 "LitmusHall$Findings" "size" "I", .methodLink RX2 64 yX2_compare, .instanceMethod yX2_compare, .selects RX2 yX2_compare yX2_compare, .initialized RX2, .code yX2_compare cX2_compare 6 (some .int), .methodLink RX2 68 yX2_intOf, .instanceMethod yX2_intOf, .selects RX2 yX2_intOf yX2_intOf, .code yX2_intOf cX2_intOf 3 (some .int), .fieldLink RX2 11 "LitmusHall$Findings" "records" "[I", .methodLink RX2 69 yJ6_compare_7cf53, .static yJ6_compare_7cf53, .initialized RJ6, .code yJ6_compare_7cf53 cJ6_compare_7cf53 2 (some .int)] ++ wsX20)
def wsX3_init : List Cond := .code yX3_init cX3_init 1 none :: ([.methodLink RX3 3 objectInit, .instanceMethod objectInit, .code objectInit ⟨#[0xb1]⟩ 1 none, .classLink RX3 9 RX7, .instantiable RX7 1, .initialized RX7, .fieldLink RX3 12 "LitmusHall$Machine" "state" "LLitmusHall$State;", .arrayClass .int, .fieldLink RX3 18 "LitmusHall$Machine" "done" "[I", .instanceMethod yX7_init, .code yX7_init cX7_init 1 none, .methodLink RX7 5 objectInit, .fieldLink RX7 11 "LitmusHall$State" "words" "[I"] ++ wsX70 ++ wsX30)
def wsX3_start : List Cond := .code yX3_start cX3_start 3 none :: ([.fieldLink RX3 22 "LitmusHall$Machine" "stands" "Z", .fieldLink RX3 26 "LitmusHall$Machine" "mode" "I", .fieldLink RX3 30 "LitmusHall$Machine" "steps" "I", .fieldLink RX3 12 "LitmusHall$Machine" "state" "LLitmusHall$State;", .methodLink RX3 33 yX7_start, .instanceMethod yX7_start, .selects RX7 yX7_start yX7_start, .initialized RX7, .code yX7_start cX7_start 2 none, .fieldLink RX7 11 "LitmusHall$State" "words" "[I", .fieldLink RX7 27 "LitmusHall$Program" "cells" "[I", .methodLink RX7 30 arraycopyName, .native arraycopyName, .static arraycopyName, .initialized "java/lang/System", .methodLink RX7 21 yJ7_fill_53178, .static yJ7_fill_53178, .initialized RJ7, .code yJ7_fill_53178 cJ7_fill_53178 4 none] ++ wsX30 ++ wsX70 ++ wsX40)
def wsX3_go_r1 : List Cond := [Cond.fieldLink RX3 30 "LitmusHall$Machine" "steps" "I", Cond.fieldLink RX3 12 "LitmusHall$Machine" "state" "LLitmusHall$State;", Cond.fieldLink RX3 26 "LitmusHall$Machine" "mode" "I", Cond.fieldLink RX3 18 "LitmusHall$Machine" "done" "[I", Cond.methodLink RX3 37 yX7_can, Cond.instanceMethod yX7_can, Cond.selects RX7 yX7_can yX7_can, Cond.initialized RX7, Cond.code yX7_can cX7_can 4 (some .boolean), Cond.fieldLink RX7 15 "LitmusHall$Program" "cores" "I", Cond.fieldLink RX7 36 "LitmusHall$Program" "lengths" "[I", Cond.methodLink RX7 39 yX7_rowSize, Cond.instanceMethod yX7_rowSize, Cond.selects RX7 yX7_rowSize yX7_rowSize, Cond.code yX7_rowSize cX7_rowSize 2 (some .int), Cond.fieldLink RX7 11 "LitmusHall$State" "words" "[I", Cond.methodLink RX7 43 yX7_nextOf, Cond.instanceMethod yX7_nextOf, Cond.selects RX7 yX7_nextOf yX7_nextOf, Cond.code yX7_nextOf cX7_nextOf 2 (some .int), Cond.methodLink RX7 46 yX4_part, Cond.instanceMethod yX4_part, Cond.selects RX4 yX4_part yX4_part, Cond.initialized RX4]
def wsX3_go_r2 : List Cond := [Cond.code yX4_part cX4_part 4 (some .int), Cond.fieldLink RX4 18 "LitmusHall$Program" "parts" "[I", Cond.methodLink RX4 31 yX4_partsAt, Cond.static yX4_partsAt, Cond.code yX4_partsAt cX4_partsAt 2 (some .int), Cond.methodLink RX7 50 yX7_waits, Cond.static yX7_waits, Cond.code yX7_waits cX7_waits 1 (some .boolean), Cond.methodLink RX7 54 yX7_isLocked, Cond.static yX7_isLocked, Cond.code yX7_isLocked cX7_isLocked 1 (some .boolean), Cond.methodLink RX3 41 yX7_move, Cond.instanceMethod yX7_move, Cond.selects RX7 yX7_move yX7_move, Cond.code yX7_move cX7_move 8 none, Cond.fieldLink RX7 61 "LitmusHall$Program" "parts" "[I", Cond.methodLink RX7 57 yX7_letGo, Cond.instanceMethod yX7_letGo, Cond.selects RX7 yX7_letGo yX7_letGo, Cond.code yX7_letGo cX7_letGo 5 none, Cond.methodLink RX7 30 arraycopyName, Cond.native arraycopyName, Cond.static arraycopyName, Cond.initialized "java/lang/System"]
def wsX3_go_r3 : List Cond := [Cond.constant RX7 89 (-524161), Cond.methodLink RX7 86 yX7_rowCell, Cond.instanceMethod yX7_rowCell, Cond.selects RX7 yX7_rowCell yX7_rowCell, Cond.code yX7_rowCell cX7_rowCell 3 (some .int), Cond.methodLink RX7 64 yX4_partsAt, Cond.methodLink RX7 68 yX7_seen, Cond.instanceMethod yX7_seen, Cond.selects RX7 yX7_seen yX7_seen, Cond.code yX7_seen cX7_seen 4 (some .int), Cond.methodLink RX7 90 yX7_rowInt, Cond.instanceMethod yX7_rowInt, Cond.selects RX7 yX7_rowInt yX7_rowInt, Cond.code yX7_rowInt cX7_rowInt 3 (some .int), Cond.methodLink RX7 71 yX7_valueOf, Cond.instanceMethod yX7_valueOf, Cond.selects RX7 yX7_valueOf yX7_valueOf, Cond.code yX7_valueOf cX7_valueOf 5 (some .int), Cond.methodLink RX7 75 yX7_put, Cond.instanceMethod yX7_put, Cond.selects RX7 yX7_put yX7_put, Cond.code yX7_put cX7_put 6 none, Cond.methodLink RX7 79 yX7_forgetStored, Cond.instanceMethod yX7_forgetStored]
def wsX3_go_r4 : List Cond := [Cond.selects RX7 yX7_forgetStored yX7_forgetStored, Cond.code yX7_forgetStored cX7_forgetStored 2 none, Cond.constant RX7 93 (-7864321), Cond.methodLink RX7 82 yX7_lock, Cond.instanceMethod yX7_lock, Cond.selects RX7 yX7_lock yX7_lock, Cond.code yX7_lock cX7_lock 11 none]
def wsX3_go : List Cond := .code yX3_go cX3_go 3 (some .boolean) :: ((wsX3_go_r1 ++ (wsX3_go_r2 ++ (wsX3_go_r3 ++ wsX3_go_r4))) ++ wsX30 ++ wsX40 ++ wsX70)
def wsX3_takeBack_r1 : List Cond := [Cond.fieldLink RX3 30 "LitmusHall$Machine" "steps" "I", Cond.fieldLink RX3 12 "LitmusHall$Machine" "state" "LLitmusHall$State;", Cond.fieldLink RX3 18 "LitmusHall$Machine" "done" "[I", Cond.fieldLink RX3 26 "LitmusHall$Machine" "mode" "I", Cond.methodLink RX3 33 yX7_start, Cond.instanceMethod yX7_start, Cond.selects RX7 yX7_start yX7_start, Cond.initialized RX7, Cond.code yX7_start cX7_start 2 none, Cond.fieldLink RX7 11 "LitmusHall$State" "words" "[I", Cond.fieldLink RX7 27 "LitmusHall$Program" "cells" "[I", Cond.methodLink RX7 30 arraycopyName, Cond.native arraycopyName, Cond.static arraycopyName, Cond.initialized "java/lang/System", Cond.methodLink RX7 21 yJ7_fill_53178, Cond.static yJ7_fill_53178, Cond.initialized RJ7, Cond.code yJ7_fill_53178 cJ7_fill_53178 4 none, Cond.methodLink RX3 41 yX7_move, Cond.instanceMethod yX7_move, Cond.selects RX7 yX7_move yX7_move, Cond.code yX7_move cX7_move 8 none, Cond.fieldLink RX7 61 "LitmusHall$Program" "parts" "[I"]
def wsX3_takeBack_r2 : List Cond := [Cond.methodLink RX7 57 yX7_letGo, Cond.instanceMethod yX7_letGo, Cond.selects RX7 yX7_letGo yX7_letGo, Cond.code yX7_letGo cX7_letGo 5 none, Cond.constant RX7 89 (-524161), Cond.methodLink RX7 86 yX7_rowCell, Cond.instanceMethod yX7_rowCell, Cond.selects RX7 yX7_rowCell yX7_rowCell, Cond.code yX7_rowCell cX7_rowCell 3 (some .int), Cond.methodLink RX7 43 yX7_nextOf, Cond.instanceMethod yX7_nextOf, Cond.selects RX7 yX7_nextOf yX7_nextOf, Cond.code yX7_nextOf cX7_nextOf 2 (some .int), Cond.methodLink RX7 64 yX4_partsAt, Cond.static yX4_partsAt, Cond.initialized RX4, Cond.code yX4_partsAt cX4_partsAt 2 (some .int), Cond.methodLink RX7 68 yX7_seen, Cond.instanceMethod yX7_seen, Cond.selects RX7 yX7_seen yX7_seen, Cond.code yX7_seen cX7_seen 4 (some .int), Cond.methodLink RX7 39 yX7_rowSize, Cond.instanceMethod yX7_rowSize, Cond.selects RX7 yX7_rowSize yX7_rowSize]
def wsX3_takeBack_r3 : List Cond := [Cond.code yX7_rowSize cX7_rowSize 2 (some .int), Cond.methodLink RX7 90 yX7_rowInt, Cond.instanceMethod yX7_rowInt, Cond.selects RX7 yX7_rowInt yX7_rowInt, Cond.code yX7_rowInt cX7_rowInt 3 (some .int), Cond.methodLink RX7 71 yX7_valueOf, Cond.instanceMethod yX7_valueOf, Cond.selects RX7 yX7_valueOf yX7_valueOf, Cond.code yX7_valueOf cX7_valueOf 5 (some .int), Cond.methodLink RX7 75 yX7_put, Cond.instanceMethod yX7_put, Cond.selects RX7 yX7_put yX7_put, Cond.code yX7_put cX7_put 6 none, Cond.methodLink RX7 79 yX7_forgetStored, Cond.instanceMethod yX7_forgetStored, Cond.selects RX7 yX7_forgetStored yX7_forgetStored, Cond.code yX7_forgetStored cX7_forgetStored 2 none, Cond.constant RX7 93 (-7864321), Cond.methodLink RX7 82 yX7_lock, Cond.instanceMethod yX7_lock, Cond.selects RX7 yX7_lock yX7_lock, Cond.code yX7_lock cX7_lock 11 none]
def wsX3_takeBack : List Cond := .code yX3_takeBack cX3_takeBack 3 (some .boolean) :: ((wsX3_takeBack_r1 ++ (wsX3_takeBack_r2 ++ wsX3_takeBack_r3)) ++ wsX30 ++ wsX70 ++ wsX40)
def wsX4_insInAll : List Cond := .code yX4_insInAll cX4_insInAll 3 (some .int) :: ([.fieldLink RX4 21 "LitmusHall$Program" "cores" "I", .fieldLink RX4 9 "LitmusHall$Program" "lengths" "[I"] ++ wsX40)
def wsX5_init : List Cond := .code yX5_init cX5_init 1 none :: ([.methodLink RX5 3 objectInit, .instanceMethod objectInit, .code objectInit ⟨#[0xb1]⟩ 1 none, .arrayClass .int, .fieldLink RX5 9 "LitmusHall$Race" "path" "[I"] ++ wsX50)
def wsX5_loadedCell : List Cond := .code yX5_loadedCell cX5_loadedCell 5 (some .int) :: ([.fieldLink RX5 88 "LitmusHall$Program" "lengths" "[I", .methodLink RX5 85 yX7_nextOf, .instanceMethod yX7_nextOf, .selects RX7 yX7_nextOf yX7_nextOf, .initialized RX7, .code yX7_nextOf cX7_nextOf 2 (some .int), .fieldLink RX7 11 "LitmusHall$State" "words" "[I", .methodLink RX5 91 yX4_part, .instanceMethod yX4_part, .selects RX4 yX4_part yX4_part, .initialized RX4, .code yX4_part cX4_part 4 (some .int), .fieldLink RX4 18 "LitmusHall$Program" "parts" "[I", .methodLink RX4 31 yX4_partsAt, .static yX4_partsAt, .code yX4_partsAt cX4_partsAt 2 (some .int)] ++ wsX40 ++ wsX70)
def wsX7_storedTo : List Cond := .code yX7_storedTo cX7_storedTo 2 (some .int) :: ([.fieldLink RX7 11 "LitmusHall$State" "words" "[I"] ++ wsX70)
def wsX5_writes : List Cond := .code yX5_writes cX5_writes 6 (some .boolean) :: ([.fieldLink RX5 88 "LitmusHall$Program" "lengths" "[I", .methodLink RX5 85 yX7_nextOf, .instanceMethod yX7_nextOf, .selects RX7 yX7_nextOf yX7_nextOf, .initialized RX7, .code yX7_nextOf cX7_nextOf 2 (some .int), .fieldLink RX7 11 "LitmusHall$State" "words" "[I", .methodLink RX5 91 yX4_part, .instanceMethod yX4_part, .selects RX4 yX4_part yX4_part, .initialized RX4, .code yX4_part cX4_part 4 (some .int), .fieldLink RX4 18 "LitmusHall$Program" "parts" "[I", .methodLink RX4 31 yX4_partsAt, .static yX4_partsAt, .code yX4_partsAt cX4_partsAt 2 (some .int), .methodLink RX5 95 yX7_isLocked, .static yX7_isLocked, .code yX7_isLocked cX7_isLocked 1 (some .boolean)] ++ wsX40 ++ wsX70)
def wsX5_isRace_r1 : List Cond := [Cond.fieldLink RX5 58 "LitmusHall$Program" "cores" "I", Cond.fieldLink RX5 76 "LitmusHall$Race" "loader" "I", Cond.fieldLink RX5 79 "LitmusHall$Race" "writer" "I", Cond.fieldLink RX5 82 "LitmusHall$Race" "cell" "I", Cond.methodLink RX5 63 yX5_loadedCell, Cond.static yX5_loadedCell, Cond.initialized RX5, Cond.code yX5_loadedCell cX5_loadedCell 5 (some .int), Cond.fieldLink RX5 88 "LitmusHall$Program" "lengths" "[I", Cond.methodLink RX5 85 yX7_nextOf, Cond.instanceMethod yX7_nextOf, Cond.selects RX7 yX7_nextOf yX7_nextOf, Cond.initialized RX7, Cond.code yX7_nextOf cX7_nextOf 2 (some .int), Cond.fieldLink RX7 11 "LitmusHall$State" "words" "[I", Cond.methodLink RX5 91 yX4_part, Cond.instanceMethod yX4_part, Cond.selects RX4 yX4_part yX4_part, Cond.initialized RX4, Cond.code yX4_part cX4_part 4 (some .int), Cond.fieldLink RX4 18 "LitmusHall$Program" "parts" "[I", Cond.methodLink RX4 31 yX4_partsAt, Cond.static yX4_partsAt, Cond.code yX4_partsAt cX4_partsAt 2 (some .int)]
def wsX5_isRace_r2 : List Cond := [Cond.methodLink RX5 67 yX7_storedTo, Cond.instanceMethod yX7_storedTo, Cond.selects RX7 yX7_storedTo yX7_storedTo, Cond.code yX7_storedTo cX7_storedTo 2 (some .int), Cond.methodLink RX5 72 yX5_writes, Cond.static yX5_writes, Cond.code yX5_writes cX5_writes 6 (some .boolean), Cond.methodLink RX5 95 yX7_isLocked, Cond.static yX7_isLocked, Cond.code yX7_isLocked cX7_isLocked 1 (some .boolean)]
def wsX5_isRace : List Cond := .code yX5_isRace cX5_isRace 6 (some .boolean) :: ((wsX5_isRace_r1 ++ wsX5_isRace_r2) ++ wsX40 ++ wsX50 ++ wsX70)
def wsX5_search_r1 : List Cond := [Cond.fieldLink RX5 15 "LitmusHall$Race" "known" "Z", Cond.fieldLink RX5 19 "LitmusHall$Race" "answer" "I", Cond.fieldLink RX5 29 "LitmusHall$Explorer" "size" "I", Cond.fieldLink RX5 36 "LitmusHall$Explorer" "state" "LLitmusHall$State;", Cond.fieldLink RX5 48 "LitmusHall$Race" "steps" "I", Cond.fieldLink RX5 51 "LitmusHall$Explorer" "path" "[I", Cond.fieldLink RX5 9 "LitmusHall$Race" "path" "[I", Cond.methodLink RX5 52 arraycopyName, Cond.native arraycopyName, Cond.static arraycopyName, Cond.initialized "java/lang/System", Cond.methodLink RX5 23 yX1_explore, Cond.instanceMethod yX1_explore, Cond.selects RX1 yX1_explore yX1_explore, Cond.initialized RX1, Cond.code yX1_explore cX1_explore 5 (some .boolean), Cond.fieldLink RX1 35 "LitmusHall$Explorer" "slots" "[I", Cond.fieldLink RX1 47 "LitmusHall$Explorer" "size" "I", Cond.fieldLink RX1 50 "LitmusHall$Explorer" "endSize" "I", Cond.fieldLink RX1 28 "LitmusHall$Explorer" "width" "I", Cond.fieldLink RX1 21 "LitmusHall$Explorer" "state" "LLitmusHall$State;", Cond.fieldLink RX1 61 "LitmusHall$State" "words" "[I", Cond.fieldLink RX1 25 "LitmusHall$Explorer" "moved" "LLitmusHall$State;", Cond.methodLink RX1 83 arraycopyName]
def wsX5_search_r2 : List Cond := [Cond.methodLink RX1 41 yJ7_fill_53178, Cond.static yJ7_fill_53178, Cond.initialized RJ7, Cond.code yJ7_fill_53178 cJ7_fill_53178 4 none, Cond.methodLink RX1 53 yX7_widthOf, Cond.static yX7_widthOf, Cond.initialized RX7, Cond.code yX7_widthOf cX7_widthOf 2 (some .int), Cond.fieldLink RX7 15 "LitmusHall$Program" "cores" "I", Cond.methodLink RX1 57 yX7_start, Cond.instanceMethod yX7_start, Cond.selects RX7 yX7_start yX7_start, Cond.code yX7_start cX7_start 2 none, Cond.fieldLink RX7 11 "LitmusHall$State" "words" "[I", Cond.fieldLink RX7 27 "LitmusHall$Program" "cells" "[I", Cond.methodLink RX7 30 arraycopyName, Cond.methodLink RX7 21 yJ7_fill_53178, Cond.methodLink RX1 64 yX1_keep, Cond.instanceMethod yX1_keep, Cond.selects RX1 yX1_keep yX1_keep, Cond.code yX1_keep cX1_keep 7 (some .boolean), Cond.methodLink RX1 93 yX1_hashOf, Cond.instanceMethod yX1_hashOf, Cond.selects RX1 yX1_hashOf yX1_hashOf]
def wsX5_search_r3 : List Cond := [Cond.code yX1_hashOf cX1_hashOf 4 (some .int), Cond.constant RX1 105 (-2048144789), Cond.methodLink RX1 97 yX1_add, Cond.instanceMethod yX1_add, Cond.selects RX1 yX1_add yX1_add, Cond.code yX1_add cX1_add 5 (some .boolean), Cond.fieldLink RX1 32 "LitmusHall$Explorer" "rows" "[I", Cond.constant RX1 106 (102000), Cond.methodLink RX1 107 Lib.Math.min.name, Cond.static Lib.Math.min.name, Cond.initialized "java/lang/Math", Cond.code Lib.Math.min.name Lib.Math.min.code 2 (some .int), Cond.fieldLink RX1 38 "LitmusHall$Explorer" "came" "[I", Cond.methodLink RX1 113 yJ7_copyOf_59c91, Cond.static yJ7_copyOf_59c91, Cond.code yJ7_copyOf_59c91 cJ7_copyOf_59c91 3 (some (.array .int)), Cond.methodLink RJ7 316 ⟨"[I", "clone", "()Ljava/lang/Object;"⟩, Cond.sameMethod "[I" "java/lang/Object" "clone" "()Ljava/lang/Object;", Cond.native ⟨"java/lang/Object", "clone", "()Ljava/lang/Object;"⟩, Cond.instanceMethod ⟨"java/lang/Object", "clone", "()Ljava/lang/Object;"⟩, Cond.selects "[I" ⟨"[I", "clone", "()Ljava/lang/Object;"⟩ ⟨"java/lang/Object", "clone", "()Ljava/lang/Object;"⟩, Cond.classLink RJ7 317 "[I", Cond.arrayClass .int, Cond.methodLink RJ7 304 Lib.Math.min.name]
def wsX5_search_r4 : List Cond := [Cond.methodLink RJ7 150 arraycopyName, Cond.methodLink RX1 101 yX1_isSame, Cond.instanceMethod yX1_isSame, Cond.selects RX1 yX1_isSame yX1_isSame, Cond.code yX1_isSame cX1_isSame 5 (some .boolean), Cond.methodLink RX1 68 yX1_fetch, Cond.instanceMethod yX1_fetch, Cond.selects RX1 yX1_fetch yX1_fetch, Cond.code yX1_fetch cX1_fetch 2 none, Cond.methodLink RX1 72 yX7_hasEnded, Cond.instanceMethod yX7_hasEnded, Cond.selects RX7 yX7_hasEnded yX7_hasEnded, Cond.code yX7_hasEnded cX7_hasEnded 3 (some .boolean), Cond.fieldLink RX7 36 "LitmusHall$Program" "lengths" "[I", Cond.methodLink RX1 76 yX1_addEnd, Cond.instanceMethod yX1_addEnd, Cond.selects RX1 yX1_addEnd yX1_addEnd, Cond.code yX1_addEnd cX1_addEnd 6 none, Cond.fieldLink RX1 13 "LitmusHall$Explorer" "ends" "[I", Cond.methodLink RX1 117 yX1_isBefore, Cond.instanceMethod yX1_isBefore, Cond.selects RX1 yX1_isBefore yX1_isBefore, Cond.code yX1_isBefore cX1_isBefore 6 (some .boolean), Cond.methodLink RX1 79 yX7_can]
def wsX5_search_r5 : List Cond := [Cond.instanceMethod yX7_can, Cond.selects RX7 yX7_can yX7_can, Cond.code yX7_can cX7_can 4 (some .boolean), Cond.methodLink RX7 39 yX7_rowSize, Cond.instanceMethod yX7_rowSize, Cond.selects RX7 yX7_rowSize yX7_rowSize, Cond.code yX7_rowSize cX7_rowSize 2 (some .int), Cond.methodLink RX7 43 yX7_nextOf, Cond.instanceMethod yX7_nextOf, Cond.selects RX7 yX7_nextOf yX7_nextOf, Cond.code yX7_nextOf cX7_nextOf 2 (some .int), Cond.methodLink RX7 46 yX4_part, Cond.instanceMethod yX4_part, Cond.selects RX4 yX4_part yX4_part, Cond.initialized RX4, Cond.code yX4_part cX4_part 4 (some .int), Cond.fieldLink RX4 18 "LitmusHall$Program" "parts" "[I", Cond.methodLink RX4 31 yX4_partsAt, Cond.static yX4_partsAt, Cond.code yX4_partsAt cX4_partsAt 2 (some .int), Cond.methodLink RX7 50 yX7_waits, Cond.static yX7_waits, Cond.code yX7_waits cX7_waits 1 (some .boolean), Cond.methodLink RX7 54 yX7_isLocked]
def wsX5_search_r6 : List Cond := [Cond.static yX7_isLocked, Cond.code yX7_isLocked cX7_isLocked 1 (some .boolean), Cond.methodLink RX1 89 yX7_move, Cond.instanceMethod yX7_move, Cond.selects RX7 yX7_move yX7_move, Cond.code yX7_move cX7_move 8 none, Cond.fieldLink RX7 61 "LitmusHall$Program" "parts" "[I", Cond.methodLink RX7 57 yX7_letGo, Cond.instanceMethod yX7_letGo, Cond.selects RX7 yX7_letGo yX7_letGo, Cond.code yX7_letGo cX7_letGo 5 none, Cond.constant RX7 89 (-524161), Cond.methodLink RX7 86 yX7_rowCell, Cond.instanceMethod yX7_rowCell, Cond.selects RX7 yX7_rowCell yX7_rowCell, Cond.code yX7_rowCell cX7_rowCell 3 (some .int), Cond.methodLink RX7 64 yX4_partsAt, Cond.methodLink RX7 68 yX7_seen, Cond.instanceMethod yX7_seen, Cond.selects RX7 yX7_seen yX7_seen, Cond.code yX7_seen cX7_seen 4 (some .int), Cond.methodLink RX7 90 yX7_rowInt, Cond.instanceMethod yX7_rowInt, Cond.selects RX7 yX7_rowInt yX7_rowInt]
def wsX5_search_r7 : List Cond := [Cond.code yX7_rowInt cX7_rowInt 3 (some .int), Cond.methodLink RX7 71 yX7_valueOf, Cond.instanceMethod yX7_valueOf, Cond.selects RX7 yX7_valueOf yX7_valueOf, Cond.code yX7_valueOf cX7_valueOf 5 (some .int), Cond.methodLink RX7 75 yX7_put, Cond.instanceMethod yX7_put, Cond.selects RX7 yX7_put yX7_put, Cond.code yX7_put cX7_put 6 none, Cond.methodLink RX7 79 yX7_forgetStored, Cond.instanceMethod yX7_forgetStored, Cond.selects RX7 yX7_forgetStored yX7_forgetStored, Cond.code yX7_forgetStored cX7_forgetStored 2 none, Cond.constant RX7 93 (-7864321), Cond.methodLink RX7 82 yX7_lock, Cond.instanceMethod yX7_lock, Cond.selects RX7 yX7_lock yX7_lock, Cond.code yX7_lock cX7_lock 11 none, Cond.methodLink RX5 32 yX1_fetch, Cond.methodLink RX5 40 yX5_isRace, Cond.instanceMethod yX5_isRace, Cond.selects RX5 yX5_isRace yX5_isRace, Cond.initialized RX5, Cond.code yX5_isRace cX5_isRace 6 (some .boolean)]
def wsX5_search_r8 : List Cond := [Cond.fieldLink RX5 58 "LitmusHall$Program" "cores" "I", Cond.fieldLink RX5 76 "LitmusHall$Race" "loader" "I", Cond.fieldLink RX5 79 "LitmusHall$Race" "writer" "I", Cond.fieldLink RX5 82 "LitmusHall$Race" "cell" "I", Cond.methodLink RX5 63 yX5_loadedCell, Cond.static yX5_loadedCell, Cond.code yX5_loadedCell cX5_loadedCell 5 (some .int), Cond.fieldLink RX5 88 "LitmusHall$Program" "lengths" "[I", Cond.methodLink RX5 85 yX7_nextOf, Cond.methodLink RX5 91 yX4_part, Cond.methodLink RX5 67 yX7_storedTo, Cond.instanceMethod yX7_storedTo, Cond.selects RX7 yX7_storedTo yX7_storedTo, Cond.code yX7_storedTo cX7_storedTo 2 (some .int), Cond.methodLink RX5 72 yX5_writes, Cond.static yX5_writes, Cond.code yX5_writes cX5_writes 6 (some .boolean), Cond.methodLink RX5 95 yX7_isLocked, Cond.methodLink RX5 44 yX1_pathTo, Cond.instanceMethod yX1_pathTo, Cond.selects RX1 yX1_pathTo yX1_pathTo, Cond.code yX1_pathTo cX1_pathTo 6 (some .int), Cond.fieldLink RX1 17 "LitmusHall$Explorer" "path" "[I"]
def wsX5_search : List Cond := .code yX5_search cX5_search 4 none :: ((wsX5_search_r1 ++ (wsX5_search_r2 ++ (wsX5_search_r3 ++ (wsX5_search_r4 ++ (wsX5_search_r5 ++ (wsX5_search_r6 ++ (wsX5_search_r7 ++ wsX5_search_r8))))))) ++ wsX50 ++ wsX10 ++ wsX70 ++ wsX40)
def wsX5_tell : List Cond := .code yX5_tell cX5_tell 3 (some .int) :: ([.fieldLink RX5 19 "LitmusHall$Race" "answer" "I", .fieldLink RX5 76 "LitmusHall$Race" "loader" "I", .fieldLink RX5 79 "LitmusHall$Race" "writer" "I", .fieldLink RX5 82 "LitmusHall$Race" "cell" "I", .fieldLink RX5 48 "LitmusHall$Race" "steps" "I", .fieldLink RX5 9 "LitmusHall$Race" "path" "[I"] ++ wsX50)
def wsX6_init : List Cond := .code yX6_init cX6_init 1 none :: ([.methodLink RX6 3 objectInit, .instanceMethod objectInit, .code objectInit ⟨#[0xb1]⟩ 1 none, .classLink RX6 9 RX4, .instantiable RX4 4, .initialized RX4, .fieldLink RX6 12 "LitmusHall$Reader" "draft" "LLitmusHall$Program;", .fieldLink RX6 18 "LitmusHall$Reader" "place" "I", .arrayClass .int, .fieldLink RX6 22 "LitmusHall$Reader" "kinds" "[I", .fieldLink RX6 26 "LitmusHall$Reader" "starts" "[I", .fieldLink RX6 29 "LitmusHall$Reader" "numbers" "[I", .fieldLink RX6 32 "LitmusHall$Reader" "skipTokens" "[I", .instanceMethod yX4_init, .code yX4_init cX4_init 1 none, .methodLink RX4 3 objectInit, .fieldLink RX4 9 "LitmusHall$Program" "lengths" "[I", .fieldLink RX4 15 "LitmusHall$Program" "cells" "[I", .fieldLink RX4 18 "LitmusHall$Program" "parts" "[I"] ++ wsX40 ++ wsX60)
def wsX6_behindBlanks : List Cond := .code yX6_behindBlanks cX6_behindBlanks 5 (some .int) :: ([])
def wsX6_isLetter : List Cond := .code yX6_isLetter cX6_isLetter 1 (some .boolean) :: ([])
def wsX6_isDigit : List Cond := .code yX6_isDigit cX6_isDigit 1 (some .boolean) :: ([])
def wsX6_behindRun : List Cond := .code yX6_behindRun cX6_behindRun 7 (some .int) :: ([.methodLink RX6 74 yX6_isLetter, .static yX6_isLetter, .initialized RX6, .code yX6_isLetter cX6_isLetter 1 (some .boolean), .methodLink RX6 78 yX6_isDigit, .static yX6_isDigit, .code yX6_isDigit cX6_isDigit 1 (some .boolean)])
def wsJ0_isLatin1_aae02 : List Cond := .code yJ0_isLatin1_aae02 cJ0_isLatin1_aae02 1 (some .boolean) :: ([.fieldLink RJ0 38 "java/lang/String" "COMPACT_STRINGS" "Z", .fieldLink RJ0 15 "java/lang/String" "coder" "B"])
def wsJ3_checkIndex_8e157 : List Cond := .code yJ3_checkIndex_8e157 cJ3_checkIndex_8e157 3 (some .int) :: ([])
def wsJ0_checkIndex_df160 : List Cond := .code yJ0_checkIndex_df160 cJ0_checkIndex_df160 2 none :: ([.fieldLink RJ0 1053 "jdk/internal/util/Preconditions" "SIOOBE_FORMATTER" "Ljava/util/function/BiFunction;", .methodLink RJ0 1059 yJ3_checkIndex_8e157, .static yJ3_checkIndex_8e157, .initialized RJ3, .code yJ3_checkIndex_8e157 cJ3_checkIndex_8e157 3 (some .int)])
def wsJ1_charAt_3b067 : List Cond := .code yJ1_charAt_3b067 cJ1_charAt_3b067 2 (some .char) :: ([.methodLink RJ1 9 yJ0_checkIndex_df160, .static yJ0_checkIndex_df160, .initialized RJ0, .code yJ0_checkIndex_df160 cJ0_checkIndex_df160 2 none, .fieldLink RJ0 1053 "jdk/internal/util/Preconditions" "SIOOBE_FORMATTER" "Ljava/util/function/BiFunction;", .methodLink RJ0 1059 yJ3_checkIndex_8e157, .static yJ3_checkIndex_8e157, .initialized RJ3, .code yJ3_checkIndex_8e157 cJ3_checkIndex_8e157 3 (some .int)])
def wsJ2_length_9d52b : List Cond := .code yJ2_length_9d52b cJ2_length_9d52b 1 (some .int) :: ([])
def wsJ2_checkIndex_2214a : List Cond := .code yJ2_checkIndex_2214a cJ2_checkIndex_2214a 2 none :: ([.methodLink RJ2 48 yJ2_length_9d52b, .static yJ2_length_9d52b, .initialized RJ2, .code yJ2_length_9d52b cJ2_length_9d52b 1 (some .int), .methodLink RJ2 414 yJ0_checkIndex_df160, .static yJ0_checkIndex_df160, .initialized RJ0, .code yJ0_checkIndex_df160 cJ0_checkIndex_df160 2 none, .fieldLink RJ0 1053 "jdk/internal/util/Preconditions" "SIOOBE_FORMATTER" "Ljava/util/function/BiFunction;", .methodLink RJ0 1059 yJ3_checkIndex_8e157, .static yJ3_checkIndex_8e157, .initialized RJ3, .code yJ3_checkIndex_8e157 cJ3_checkIndex_8e157 3 (some .int)])
def wsJ2_getChar_3b067 : List Cond := .code yJ2_getChar_3b067 cJ2_getChar_3b067 2 (some .char) :: ([.fieldLink RJ2 44 "java/lang/StringUTF16" "$assertionsDisabled" "Z", .fieldLink RJ2 59 "java/lang/StringUTF16" "HI_BYTE_SHIFT" "I", .fieldLink RJ2 63 "java/lang/StringUTF16" "LO_BYTE_SHIFT" "I", .methodLink RJ2 48 yJ2_length_9d52b, .static yJ2_length_9d52b, .initialized RJ2, .code yJ2_length_9d52b cJ2_length_9d52b 1 (some .int)])
def wsJ2_charAt_3b067 : List Cond := .code yJ2_charAt_3b067 cJ2_charAt_3b067 2 (some .char) :: ([.methodLink RJ2 67 yJ2_checkIndex_2214a, .static yJ2_checkIndex_2214a, .initialized RJ2, .code yJ2_checkIndex_2214a cJ2_checkIndex_2214a 2 none, .methodLink RJ2 48 yJ2_length_9d52b, .static yJ2_length_9d52b, .code yJ2_length_9d52b cJ2_length_9d52b 1 (some .int), .methodLink RJ2 414 yJ0_checkIndex_df160, .static yJ0_checkIndex_df160, .initialized RJ0, .code yJ0_checkIndex_df160 cJ0_checkIndex_df160 2 none, .fieldLink RJ0 1053 "jdk/internal/util/Preconditions" "SIOOBE_FORMATTER" "Ljava/util/function/BiFunction;", .methodLink RJ0 1059 yJ3_checkIndex_8e157, .static yJ3_checkIndex_8e157, .initialized RJ3, .code yJ3_checkIndex_8e157 cJ3_checkIndex_8e157 3 (some .int), .methodLink RJ2 71 yJ2_getChar_3b067, .static yJ2_getChar_3b067, .code yJ2_getChar_3b067 cJ2_getChar_3b067 2 (some .char), .fieldLink RJ2 44 "java/lang/StringUTF16" "$assertionsDisabled" "Z", .fieldLink RJ2 59 "java/lang/StringUTF16" "HI_BYTE_SHIFT" "I", .fieldLink RJ2 63 "java/lang/StringUTF16" "LO_BYTE_SHIFT" "I"])
def wsJ0_charAt_5068e_r1 : List Cond := [Cond.fieldLink RJ0 9 "java/lang/String" "value" "[B", Cond.methodLink RJ0 492 yJ0_isLatin1_aae02, Cond.instanceMethod yJ0_isLatin1_aae02, Cond.selects RJ0 yJ0_isLatin1_aae02 yJ0_isLatin1_aae02, Cond.initialized RJ0, Cond.code yJ0_isLatin1_aae02 cJ0_isLatin1_aae02 1 (some .boolean), Cond.fieldLink RJ0 38 "java/lang/String" "COMPACT_STRINGS" "Z", Cond.fieldLink RJ0 15 "java/lang/String" "coder" "B", Cond.methodLink RJ0 495 yJ1_charAt_3b067, Cond.static yJ1_charAt_3b067, Cond.initialized RJ1, Cond.code yJ1_charAt_3b067 cJ1_charAt_3b067 2 (some .char), Cond.methodLink RJ1 9 yJ0_checkIndex_df160, Cond.static yJ0_checkIndex_df160, Cond.code yJ0_checkIndex_df160 cJ0_checkIndex_df160 2 none, Cond.fieldLink RJ0 1053 "jdk/internal/util/Preconditions" "SIOOBE_FORMATTER" "Ljava/util/function/BiFunction;", Cond.methodLink RJ0 1059 yJ3_checkIndex_8e157, Cond.static yJ3_checkIndex_8e157, Cond.initialized RJ3, Cond.code yJ3_checkIndex_8e157 cJ3_checkIndex_8e157 3 (some .int), Cond.methodLink RJ0 498 yJ2_charAt_3b067, Cond.static yJ2_charAt_3b067, Cond.initialized RJ2, Cond.code yJ2_charAt_3b067 cJ2_charAt_3b067 2 (some .char)]
def wsJ0_charAt_5068e_r2 : List Cond := [Cond.methodLink RJ2 67 yJ2_checkIndex_2214a, Cond.static yJ2_checkIndex_2214a, Cond.code yJ2_checkIndex_2214a cJ2_checkIndex_2214a 2 none, Cond.methodLink RJ2 48 yJ2_length_9d52b, Cond.static yJ2_length_9d52b, Cond.code yJ2_length_9d52b cJ2_length_9d52b 1 (some .int), Cond.methodLink RJ2 414 yJ0_checkIndex_df160, Cond.methodLink RJ2 71 yJ2_getChar_3b067, Cond.static yJ2_getChar_3b067, Cond.code yJ2_getChar_3b067 cJ2_getChar_3b067 2 (some .char), Cond.fieldLink RJ2 44 "java/lang/StringUTF16" "$assertionsDisabled" "Z", Cond.fieldLink RJ2 59 "java/lang/StringUTF16" "HI_BYTE_SHIFT" "I", Cond.fieldLink RJ2 63 "java/lang/StringUTF16" "LO_BYTE_SHIFT" "I"]
def wsJ0_charAt_5068e : List Cond := .code yJ0_charAt_5068e cJ0_charAt_5068e 2 (some .char) :: ((wsJ0_charAt_5068e_r1 ++ wsJ0_charAt_5068e_r2))
def wsX6_isWord_r1 : List Cond := [Cond.methodLink RX6 90 yJ0_charAt_5068e, Cond.instanceMethod yJ0_charAt_5068e, Cond.selects RJ0 yJ0_charAt_5068e yJ0_charAt_5068e, Cond.initialized RJ0, Cond.code yJ0_charAt_5068e cJ0_charAt_5068e 2 (some .char), Cond.fieldLink RJ0 9 "java/lang/String" "value" "[B", Cond.methodLink RJ0 492 yJ0_isLatin1_aae02, Cond.instanceMethod yJ0_isLatin1_aae02, Cond.selects RJ0 yJ0_isLatin1_aae02 yJ0_isLatin1_aae02, Cond.code yJ0_isLatin1_aae02 cJ0_isLatin1_aae02 1 (some .boolean), Cond.fieldLink RJ0 38 "java/lang/String" "COMPACT_STRINGS" "Z", Cond.fieldLink RJ0 15 "java/lang/String" "coder" "B", Cond.methodLink RJ0 495 yJ1_charAt_3b067, Cond.static yJ1_charAt_3b067, Cond.initialized RJ1, Cond.code yJ1_charAt_3b067 cJ1_charAt_3b067 2 (some .char), Cond.methodLink RJ1 9 yJ0_checkIndex_df160, Cond.static yJ0_checkIndex_df160, Cond.code yJ0_checkIndex_df160 cJ0_checkIndex_df160 2 none, Cond.fieldLink RJ0 1053 "jdk/internal/util/Preconditions" "SIOOBE_FORMATTER" "Ljava/util/function/BiFunction;", Cond.methodLink RJ0 1059 yJ3_checkIndex_8e157, Cond.static yJ3_checkIndex_8e157, Cond.initialized RJ3, Cond.code yJ3_checkIndex_8e157 cJ3_checkIndex_8e157 3 (some .int)]
def wsX6_isWord_r2 : List Cond := [Cond.methodLink RJ0 498 yJ2_charAt_3b067, Cond.static yJ2_charAt_3b067, Cond.initialized RJ2, Cond.code yJ2_charAt_3b067 cJ2_charAt_3b067 2 (some .char), Cond.methodLink RJ2 67 yJ2_checkIndex_2214a, Cond.static yJ2_checkIndex_2214a, Cond.code yJ2_checkIndex_2214a cJ2_checkIndex_2214a 2 none, Cond.methodLink RJ2 48 yJ2_length_9d52b, Cond.static yJ2_length_9d52b, Cond.code yJ2_length_9d52b cJ2_length_9d52b 1 (some .int), Cond.methodLink RJ2 414 yJ0_checkIndex_df160, Cond.methodLink RJ2 71 yJ2_getChar_3b067, Cond.static yJ2_getChar_3b067, Cond.code yJ2_getChar_3b067 cJ2_getChar_3b067 2 (some .char), Cond.fieldLink RJ2 44 "java/lang/StringUTF16" "$assertionsDisabled" "Z", Cond.fieldLink RJ2 59 "java/lang/StringUTF16" "HI_BYTE_SHIFT" "I", Cond.fieldLink RJ2 63 "java/lang/StringUTF16" "LO_BYTE_SHIFT" "I"]
def wsX6_isWord : List Cond := .code yX6_isWord cX6_isWord 5 (some .boolean) :: ((wsX6_isWord_r1 ++ wsX6_isWord_r2))
def wsX6_wordKind_r1 : List Cond := [Cond.methodLink RX6 84 yX6_isWord, Cond.static yX6_isWord, Cond.initialized RX6, Cond.code yX6_isWord cX6_isWord 5 (some .boolean), Cond.methodLink RX6 90 yJ0_charAt_5068e, Cond.instanceMethod yJ0_charAt_5068e, Cond.selects RJ0 yJ0_charAt_5068e yJ0_charAt_5068e, Cond.initialized RJ0, Cond.code yJ0_charAt_5068e cJ0_charAt_5068e 2 (some .char), Cond.fieldLink RJ0 9 "java/lang/String" "value" "[B", Cond.methodLink RJ0 492 yJ0_isLatin1_aae02, Cond.instanceMethod yJ0_isLatin1_aae02, Cond.selects RJ0 yJ0_isLatin1_aae02 yJ0_isLatin1_aae02, Cond.code yJ0_isLatin1_aae02 cJ0_isLatin1_aae02 1 (some .boolean), Cond.fieldLink RJ0 38 "java/lang/String" "COMPACT_STRINGS" "Z", Cond.fieldLink RJ0 15 "java/lang/String" "coder" "B", Cond.methodLink RJ0 495 yJ1_charAt_3b067, Cond.static yJ1_charAt_3b067, Cond.initialized RJ1, Cond.code yJ1_charAt_3b067 cJ1_charAt_3b067 2 (some .char), Cond.methodLink RJ1 9 yJ0_checkIndex_df160, Cond.static yJ0_checkIndex_df160, Cond.code yJ0_checkIndex_df160 cJ0_checkIndex_df160 2 none, Cond.fieldLink RJ0 1053 "jdk/internal/util/Preconditions" "SIOOBE_FORMATTER" "Ljava/util/function/BiFunction;"]
def wsX6_wordKind_r2 : List Cond := [Cond.methodLink RJ0 1059 yJ3_checkIndex_8e157, Cond.static yJ3_checkIndex_8e157, Cond.initialized RJ3, Cond.code yJ3_checkIndex_8e157 cJ3_checkIndex_8e157 3 (some .int), Cond.methodLink RJ0 498 yJ2_charAt_3b067, Cond.static yJ2_charAt_3b067, Cond.initialized RJ2, Cond.code yJ2_charAt_3b067 cJ2_charAt_3b067 2 (some .char), Cond.methodLink RJ2 67 yJ2_checkIndex_2214a, Cond.static yJ2_checkIndex_2214a, Cond.code yJ2_checkIndex_2214a cJ2_checkIndex_2214a 2 none, Cond.methodLink RJ2 48 yJ2_length_9d52b, Cond.static yJ2_length_9d52b, Cond.code yJ2_length_9d52b cJ2_length_9d52b 1 (some .int), Cond.methodLink RJ2 414 yJ0_checkIndex_df160, Cond.methodLink RJ2 71 yJ2_getChar_3b067, Cond.static yJ2_getChar_3b067, Cond.code yJ2_getChar_3b067 cJ2_getChar_3b067 2 (some .char), Cond.fieldLink RJ2 44 "java/lang/StringUTF16" "$assertionsDisabled" "Z", Cond.fieldLink RJ2 59 "java/lang/StringUTF16" "HI_BYTE_SHIFT" "I", Cond.fieldLink RJ2 63 "java/lang/StringUTF16" "LO_BYTE_SHIFT" "I"]
def wsX6_wordKind : List Cond := .code yX6_wordKind cX6_wordKind 4 (some .int) :: ((wsX6_wordKind_r1 ++ wsX6_wordKind_r2))
def wsX6_kindOf_r1 : List Cond := [Cond.methodLink RX6 74 yX6_isLetter, Cond.static yX6_isLetter, Cond.initialized RX6, Cond.code yX6_isLetter cX6_isLetter 1 (some .boolean), Cond.methodLink RX6 81 yX6_wordKind, Cond.static yX6_wordKind, Cond.code yX6_wordKind cX6_wordKind 4 (some .int), Cond.methodLink RX6 84 yX6_isWord, Cond.static yX6_isWord, Cond.code yX6_isWord cX6_isWord 5 (some .boolean), Cond.methodLink RX6 90 yJ0_charAt_5068e, Cond.instanceMethod yJ0_charAt_5068e, Cond.selects RJ0 yJ0_charAt_5068e yJ0_charAt_5068e, Cond.initialized RJ0, Cond.code yJ0_charAt_5068e cJ0_charAt_5068e 2 (some .char), Cond.fieldLink RJ0 9 "java/lang/String" "value" "[B", Cond.methodLink RJ0 492 yJ0_isLatin1_aae02, Cond.instanceMethod yJ0_isLatin1_aae02, Cond.selects RJ0 yJ0_isLatin1_aae02 yJ0_isLatin1_aae02, Cond.code yJ0_isLatin1_aae02 cJ0_isLatin1_aae02 1 (some .boolean), Cond.fieldLink RJ0 38 "java/lang/String" "COMPACT_STRINGS" "Z", Cond.fieldLink RJ0 15 "java/lang/String" "coder" "B", Cond.methodLink RJ0 495 yJ1_charAt_3b067, Cond.static yJ1_charAt_3b067]
def wsX6_kindOf_r2 : List Cond := [Cond.initialized RJ1, Cond.code yJ1_charAt_3b067 cJ1_charAt_3b067 2 (some .char), Cond.methodLink RJ1 9 yJ0_checkIndex_df160, Cond.static yJ0_checkIndex_df160, Cond.code yJ0_checkIndex_df160 cJ0_checkIndex_df160 2 none, Cond.fieldLink RJ0 1053 "jdk/internal/util/Preconditions" "SIOOBE_FORMATTER" "Ljava/util/function/BiFunction;", Cond.methodLink RJ0 1059 yJ3_checkIndex_8e157, Cond.static yJ3_checkIndex_8e157, Cond.initialized RJ3, Cond.code yJ3_checkIndex_8e157 cJ3_checkIndex_8e157 3 (some .int), Cond.methodLink RJ0 498 yJ2_charAt_3b067, Cond.static yJ2_charAt_3b067, Cond.initialized RJ2, Cond.code yJ2_charAt_3b067 cJ2_charAt_3b067 2 (some .char), Cond.methodLink RJ2 67 yJ2_checkIndex_2214a, Cond.static yJ2_checkIndex_2214a, Cond.code yJ2_checkIndex_2214a cJ2_checkIndex_2214a 2 none, Cond.methodLink RJ2 48 yJ2_length_9d52b, Cond.static yJ2_length_9d52b, Cond.code yJ2_length_9d52b cJ2_length_9d52b 1 (some .int), Cond.methodLink RJ2 414 yJ0_checkIndex_df160, Cond.methodLink RJ2 71 yJ2_getChar_3b067, Cond.static yJ2_getChar_3b067, Cond.code yJ2_getChar_3b067 cJ2_getChar_3b067 2 (some .char)]
def wsX6_kindOf_r3 : List Cond := [Cond.fieldLink RJ2 44 "java/lang/StringUTF16" "$assertionsDisabled" "Z", Cond.fieldLink RJ2 59 "java/lang/StringUTF16" "HI_BYTE_SHIFT" "I", Cond.fieldLink RJ2 63 "java/lang/StringUTF16" "LO_BYTE_SHIFT" "I", Cond.methodLink RX6 78 yX6_isDigit, Cond.static yX6_isDigit, Cond.code yX6_isDigit cX6_isDigit 1 (some .boolean)]
def wsX6_kindOf : List Cond := .code yX6_kindOf cX6_kindOf 3 (some .int) :: ((wsX6_kindOf_r1 ++ (wsX6_kindOf_r2 ++ wsX6_kindOf_r3)))
def wsX6_numberOf : List Cond := .code yX6_numberOf cX6_numberOf 5 (some .int) :: ([])
def wsX6_scan_r1 : List Cond := [Cond.fieldLink RX6 26 "LitmusHall$Reader" "starts" "[I", Cond.fieldLink RX6 22 "LitmusHall$Reader" "kinds" "[I", Cond.fieldLink RX6 29 "LitmusHall$Reader" "numbers" "[I", Cond.methodLink RX6 61 yX6_behindBlanks, Cond.static yX6_behindBlanks, Cond.initialized RX6, Cond.code yX6_behindBlanks cX6_behindBlanks 5 (some .int), Cond.methodLink RX6 65 yX6_behindRun, Cond.static yX6_behindRun, Cond.code yX6_behindRun cX6_behindRun 7 (some .int), Cond.methodLink RX6 74 yX6_isLetter, Cond.static yX6_isLetter, Cond.code yX6_isLetter cX6_isLetter 1 (some .boolean), Cond.methodLink RX6 78 yX6_isDigit, Cond.static yX6_isDigit, Cond.code yX6_isDigit cX6_isDigit 1 (some .boolean), Cond.methodLink RX6 68 yX6_kindOf, Cond.static yX6_kindOf, Cond.code yX6_kindOf cX6_kindOf 3 (some .int), Cond.methodLink RX6 81 yX6_wordKind, Cond.static yX6_wordKind, Cond.code yX6_wordKind cX6_wordKind 4 (some .int), Cond.methodLink RX6 84 yX6_isWord, Cond.static yX6_isWord]
def wsX6_scan_r2 : List Cond := [Cond.code yX6_isWord cX6_isWord 5 (some .boolean), Cond.methodLink RX6 90 yJ0_charAt_5068e, Cond.instanceMethod yJ0_charAt_5068e, Cond.selects RJ0 yJ0_charAt_5068e yJ0_charAt_5068e, Cond.initialized RJ0, Cond.code yJ0_charAt_5068e cJ0_charAt_5068e 2 (some .char), Cond.fieldLink RJ0 9 "java/lang/String" "value" "[B", Cond.methodLink RJ0 492 yJ0_isLatin1_aae02, Cond.instanceMethod yJ0_isLatin1_aae02, Cond.selects RJ0 yJ0_isLatin1_aae02 yJ0_isLatin1_aae02, Cond.code yJ0_isLatin1_aae02 cJ0_isLatin1_aae02 1 (some .boolean), Cond.fieldLink RJ0 38 "java/lang/String" "COMPACT_STRINGS" "Z", Cond.fieldLink RJ0 15 "java/lang/String" "coder" "B", Cond.methodLink RJ0 495 yJ1_charAt_3b067, Cond.static yJ1_charAt_3b067, Cond.initialized RJ1, Cond.code yJ1_charAt_3b067 cJ1_charAt_3b067 2 (some .char), Cond.methodLink RJ1 9 yJ0_checkIndex_df160, Cond.static yJ0_checkIndex_df160, Cond.code yJ0_checkIndex_df160 cJ0_checkIndex_df160 2 none, Cond.fieldLink RJ0 1053 "jdk/internal/util/Preconditions" "SIOOBE_FORMATTER" "Ljava/util/function/BiFunction;", Cond.methodLink RJ0 1059 yJ3_checkIndex_8e157, Cond.static yJ3_checkIndex_8e157, Cond.initialized RJ3]
def wsX6_scan_r3 : List Cond := [Cond.code yJ3_checkIndex_8e157 cJ3_checkIndex_8e157 3 (some .int), Cond.methodLink RJ0 498 yJ2_charAt_3b067, Cond.static yJ2_charAt_3b067, Cond.initialized RJ2, Cond.code yJ2_charAt_3b067 cJ2_charAt_3b067 2 (some .char), Cond.methodLink RJ2 67 yJ2_checkIndex_2214a, Cond.static yJ2_checkIndex_2214a, Cond.code yJ2_checkIndex_2214a cJ2_checkIndex_2214a 2 none, Cond.methodLink RJ2 48 yJ2_length_9d52b, Cond.static yJ2_length_9d52b, Cond.code yJ2_length_9d52b cJ2_length_9d52b 1 (some .int), Cond.methodLink RJ2 414 yJ0_checkIndex_df160, Cond.methodLink RJ2 71 yJ2_getChar_3b067, Cond.static yJ2_getChar_3b067, Cond.code yJ2_getChar_3b067 cJ2_getChar_3b067 2 (some .char), Cond.fieldLink RJ2 44 "java/lang/StringUTF16" "$assertionsDisabled" "Z", Cond.fieldLink RJ2 59 "java/lang/StringUTF16" "HI_BYTE_SHIFT" "I", Cond.fieldLink RJ2 63 "java/lang/StringUTF16" "LO_BYTE_SHIFT" "I", Cond.methodLink RX6 71 yX6_numberOf, Cond.static yX6_numberOf, Cond.code yX6_numberOf cX6_numberOf 5 (some .int)]
def wsX6_scan : List Cond := .code yX6_scan cX6_scan 6 none :: ((wsX6_scan_r1 ++ (wsX6_scan_r2 ++ wsX6_scan_r3)) ++ wsX60)
def wsX6_fail : List Cond := .code yX6_fail cX6_fail 2 (some .boolean) :: ([.fieldLink RX6 39 "LitmusHall$Reader" "fault" "I", .fieldLink RX6 26 "LitmusHall$Reader" "starts" "[I", .fieldLink RX6 45 "LitmusHall$Reader" "at" "I", .fieldLink RX6 18 "LitmusHall$Reader" "place" "I"] ++ wsX60)
def wsX6_take : List Cond := .code yX6_take cX6_take 2 (some .boolean) :: ([.fieldLink RX6 22 "LitmusHall$Reader" "kinds" "[I", .fieldLink RX6 45 "LitmusHall$Reader" "at" "I", .methodLink RX6 96 yX6_fail, .instanceMethod yX6_fail, .selects RX6 yX6_fail yX6_fail, .initialized RX6, .code yX6_fail cX6_fail 2 (some .boolean), .fieldLink RX6 39 "LitmusHall$Reader" "fault" "I", .fieldLink RX6 26 "LitmusHall$Reader" "starts" "[I", .fieldLink RX6 18 "LitmusHall$Reader" "place" "I"] ++ wsX60)
def wsX6_noteLate : List Cond := .code yX6_noteLate cX6_noteLate 2 none :: ([.fieldLink RX6 42 "LitmusHall$Reader" "latePlace" "I", .fieldLink RX6 26 "LitmusHall$Reader" "starts" "[I"] ++ wsX60)
def wsX6_takeCell : List Cond := .code yX6_takeCell cX6_takeCell 1 (some .boolean) :: ([.fieldLink RX6 29 "LitmusHall$Reader" "numbers" "[I", .fieldLink RX6 45 "LitmusHall$Reader" "at" "I", .fieldLink RX6 108 "LitmusHall$Reader" "value" "I", .methodLink RX6 102 yX6_take, .instanceMethod yX6_take, .selects RX6 yX6_take yX6_take, .initialized RX6, .code yX6_take cX6_take 2 (some .boolean), .fieldLink RX6 22 "LitmusHall$Reader" "kinds" "[I", .methodLink RX6 96 yX6_fail, .instanceMethod yX6_fail, .selects RX6 yX6_fail yX6_fail, .code yX6_fail cX6_fail 2 (some .boolean), .fieldLink RX6 39 "LitmusHall$Reader" "fault" "I", .fieldLink RX6 26 "LitmusHall$Reader" "starts" "[I", .fieldLink RX6 18 "LitmusHall$Reader" "place" "I", .methodLink RX6 115 yX6_noteLate, .instanceMethod yX6_noteLate, .selects RX6 yX6_noteLate yX6_noteLate, .code yX6_noteLate cX6_noteLate 2 none, .fieldLink RX6 42 "LitmusHall$Reader" "latePlace" "I"] ++ wsX60)
def wsX6_takeVal : List Cond := .code yX6_takeVal cX6_takeVal 3 (some .boolean) :: ([.fieldLink RX6 22 "LitmusHall$Reader" "kinds" "[I", .fieldLink RX6 45 "LitmusHall$Reader" "at" "I", .fieldLink RX6 122 "LitmusHall$Reader" "valueReg" "I", .fieldLink RX6 108 "LitmusHall$Reader" "value" "I", .fieldLink RX6 29 "LitmusHall$Reader" "numbers" "[I", .methodLink RX6 102 yX6_take, .instanceMethod yX6_take, .selects RX6 yX6_take yX6_take, .initialized RX6, .code yX6_take cX6_take 2 (some .boolean), .methodLink RX6 96 yX6_fail, .instanceMethod yX6_fail, .selects RX6 yX6_fail yX6_fail, .code yX6_fail cX6_fail 2 (some .boolean), .fieldLink RX6 39 "LitmusHall$Reader" "fault" "I", .fieldLink RX6 26 "LitmusHall$Reader" "starts" "[I", .fieldLink RX6 18 "LitmusHall$Reader" "place" "I"] ++ wsX60)
def wsX6_readCellLine_r1 : List Cond := [Cond.fieldLink RX6 108 "LitmusHall$Reader" "value" "I", Cond.fieldLink RX6 45 "LitmusHall$Reader" "at" "I", Cond.fieldLink RX6 48 "LitmusHall$Reader" "told" "I", Cond.fieldLink RX6 12 "LitmusHall$Reader" "draft" "LLitmusHall$Program;", Cond.fieldLink RX6 119 "LitmusHall$Program" "cells" "[I", Cond.methodLink RX6 102 yX6_take, Cond.instanceMethod yX6_take, Cond.selects RX6 yX6_take yX6_take, Cond.initialized RX6, Cond.code yX6_take cX6_take 2 (some .boolean), Cond.fieldLink RX6 22 "LitmusHall$Reader" "kinds" "[I", Cond.methodLink RX6 96 yX6_fail, Cond.instanceMethod yX6_fail, Cond.selects RX6 yX6_fail yX6_fail, Cond.code yX6_fail cX6_fail 2 (some .boolean), Cond.fieldLink RX6 39 "LitmusHall$Reader" "fault" "I", Cond.fieldLink RX6 26 "LitmusHall$Reader" "starts" "[I", Cond.fieldLink RX6 18 "LitmusHall$Reader" "place" "I", Cond.methodLink RX6 105 yX6_takeCell, Cond.instanceMethod yX6_takeCell, Cond.selects RX6 yX6_takeCell yX6_takeCell, Cond.code yX6_takeCell cX6_takeCell 1 (some .boolean), Cond.fieldLink RX6 29 "LitmusHall$Reader" "numbers" "[I", Cond.methodLink RX6 115 yX6_noteLate]
def wsX6_readCellLine_r2 : List Cond := [Cond.instanceMethod yX6_noteLate, Cond.selects RX6 yX6_noteLate yX6_noteLate, Cond.code yX6_noteLate cX6_noteLate 2 none, Cond.fieldLink RX6 42 "LitmusHall$Reader" "latePlace" "I", Cond.methodLink RX6 111 yX6_takeVal, Cond.instanceMethod yX6_takeVal, Cond.selects RX6 yX6_takeVal yX6_takeVal, Cond.code yX6_takeVal cX6_takeVal 3 (some .boolean), Cond.fieldLink RX6 122 "LitmusHall$Reader" "valueReg" "I"]
def wsX6_readCellLine : List Cond := .code yX6_readCellLine cX6_readCellLine 3 (some .boolean) :: ((wsX6_readCellLine_r1 ++ wsX6_readCellLine_r2) ++ wsX60 ++ wsX40)
def wsX6_readCells_r1 : List Cond := [Cond.fieldLink RX6 22 "LitmusHall$Reader" "kinds" "[I", Cond.fieldLink RX6 45 "LitmusHall$Reader" "at" "I", Cond.methodLink RX6 99 yX6_readCellLine, Cond.instanceMethod yX6_readCellLine, Cond.selects RX6 yX6_readCellLine yX6_readCellLine, Cond.initialized RX6, Cond.code yX6_readCellLine cX6_readCellLine 3 (some .boolean), Cond.fieldLink RX6 108 "LitmusHall$Reader" "value" "I", Cond.fieldLink RX6 48 "LitmusHall$Reader" "told" "I", Cond.fieldLink RX6 12 "LitmusHall$Reader" "draft" "LLitmusHall$Program;", Cond.fieldLink RX6 119 "LitmusHall$Program" "cells" "[I", Cond.methodLink RX6 102 yX6_take, Cond.instanceMethod yX6_take, Cond.selects RX6 yX6_take yX6_take, Cond.code yX6_take cX6_take 2 (some .boolean), Cond.methodLink RX6 96 yX6_fail, Cond.instanceMethod yX6_fail, Cond.selects RX6 yX6_fail yX6_fail, Cond.code yX6_fail cX6_fail 2 (some .boolean), Cond.fieldLink RX6 39 "LitmusHall$Reader" "fault" "I", Cond.fieldLink RX6 26 "LitmusHall$Reader" "starts" "[I", Cond.fieldLink RX6 18 "LitmusHall$Reader" "place" "I", Cond.methodLink RX6 105 yX6_takeCell, Cond.instanceMethod yX6_takeCell]
def wsX6_readCells_r2 : List Cond := [Cond.selects RX6 yX6_takeCell yX6_takeCell, Cond.code yX6_takeCell cX6_takeCell 1 (some .boolean), Cond.fieldLink RX6 29 "LitmusHall$Reader" "numbers" "[I", Cond.methodLink RX6 115 yX6_noteLate, Cond.instanceMethod yX6_noteLate, Cond.selects RX6 yX6_noteLate yX6_noteLate, Cond.code yX6_noteLate cX6_noteLate 2 none, Cond.fieldLink RX6 42 "LitmusHall$Reader" "latePlace" "I", Cond.methodLink RX6 111 yX6_takeVal, Cond.instanceMethod yX6_takeVal, Cond.selects RX6 yX6_takeVal yX6_takeVal, Cond.code yX6_takeVal cX6_takeVal 3 (some .boolean), Cond.fieldLink RX6 122 "LitmusHall$Reader" "valueReg" "I"]
def wsX6_readCells : List Cond := .code yX6_readCells cX6_readCells 2 (some .boolean) :: ((wsX6_readCells_r1 ++ wsX6_readCells_r2) ++ wsX60 ++ wsX40)
def wsX6_shapeOf : List Cond := .code yX6_shapeOf cX6_shapeOf 1 (some (.object "java/lang/String")) :: ([])
def wsJ0_coder_7d493 : List Cond := .code yJ0_coder_7d493 cJ0_coder_7d493 1 (some .byte) :: ([.fieldLink RJ0 38 "java/lang/String" "COMPACT_STRINGS" "Z", .fieldLink RJ0 15 "java/lang/String" "coder" "B"])
def wsJ0_length_8abf5 : List Cond := .code yJ0_length_8abf5 cJ0_length_8abf5 1 (some .int) :: ([.fieldLink RJ0 9 "java/lang/String" "value" "[B", .methodLink RJ0 335 yJ0_coder_7d493, .instanceMethod yJ0_coder_7d493, .selects RJ0 yJ0_coder_7d493 yJ0_coder_7d493, .initialized RJ0, .code yJ0_coder_7d493 cJ0_coder_7d493 1 (some .byte), .fieldLink RJ0 38 "java/lang/String" "COMPACT_STRINGS" "Z", .fieldLink RJ0 15 "java/lang/String" "coder" "B"])
def wsX6_takeReg : List Cond := .code yX6_takeReg cX6_takeReg 2 (some .boolean) :: ([.fieldLink RX6 22 "LitmusHall$Reader" "kinds" "[I", .fieldLink RX6 45 "LitmusHall$Reader" "at" "I", .fieldLink RX6 122 "LitmusHall$Reader" "valueReg" "I", .methodLink RX6 96 yX6_fail, .instanceMethod yX6_fail, .selects RX6 yX6_fail yX6_fail, .initialized RX6, .code yX6_fail cX6_fail 2 (some .boolean), .fieldLink RX6 39 "LitmusHall$Reader" "fault" "I", .fieldLink RX6 26 "LitmusHall$Reader" "starts" "[I", .fieldLink RX6 18 "LitmusHall$Reader" "place" "I", .methodLink RX6 102 yX6_take, .instanceMethod yX6_take, .selects RX6 yX6_take yX6_take, .code yX6_take cX6_take 2 (some .boolean)] ++ wsX60)
def wsX6_takeSkip : List Cond := .code yX6_takeSkip cX6_takeSkip 1 (some .boolean) :: ([.fieldLink RX6 29 "LitmusHall$Reader" "numbers" "[I", .fieldLink RX6 45 "LitmusHall$Reader" "at" "I", .fieldLink RX6 108 "LitmusHall$Reader" "value" "I", .methodLink RX6 102 yX6_take, .instanceMethod yX6_take, .selects RX6 yX6_take yX6_take, .initialized RX6, .code yX6_take cX6_take 2 (some .boolean), .fieldLink RX6 22 "LitmusHall$Reader" "kinds" "[I", .methodLink RX6 96 yX6_fail, .instanceMethod yX6_fail, .selects RX6 yX6_fail yX6_fail, .code yX6_fail cX6_fail 2 (some .boolean), .fieldLink RX6 39 "LitmusHall$Reader" "fault" "I", .fieldLink RX6 26 "LitmusHall$Reader" "starts" "[I", .fieldLink RX6 18 "LitmusHall$Reader" "place" "I"] ++ wsX60)
def wsX6_readPart_r1 : List Cond := [Cond.fieldLink RX6 12 "LitmusHall$Reader" "draft" "LLitmusHall$Program;", Cond.fieldLink RX6 168 "LitmusHall$Program" "parts" "[I", Cond.fieldLink RX6 122 "LitmusHall$Reader" "valueReg" "I", Cond.fieldLink RX6 108 "LitmusHall$Reader" "value" "I", Cond.methodLink RX6 165 yX6_takeReg, Cond.instanceMethod yX6_takeReg, Cond.selects RX6 yX6_takeReg yX6_takeReg, Cond.initialized RX6, Cond.code yX6_takeReg cX6_takeReg 2 (some .boolean), Cond.fieldLink RX6 22 "LitmusHall$Reader" "kinds" "[I", Cond.fieldLink RX6 45 "LitmusHall$Reader" "at" "I", Cond.methodLink RX6 96 yX6_fail, Cond.instanceMethod yX6_fail, Cond.selects RX6 yX6_fail yX6_fail, Cond.code yX6_fail cX6_fail 2 (some .boolean), Cond.fieldLink RX6 39 "LitmusHall$Reader" "fault" "I", Cond.fieldLink RX6 26 "LitmusHall$Reader" "starts" "[I", Cond.fieldLink RX6 18 "LitmusHall$Reader" "place" "I", Cond.methodLink RX6 102 yX6_take, Cond.instanceMethod yX6_take, Cond.selects RX6 yX6_take yX6_take, Cond.code yX6_take cX6_take 2 (some .boolean), Cond.methodLink RX6 105 yX6_takeCell, Cond.instanceMethod yX6_takeCell]
def wsX6_readPart_r2 : List Cond := [Cond.selects RX6 yX6_takeCell yX6_takeCell, Cond.code yX6_takeCell cX6_takeCell 1 (some .boolean), Cond.fieldLink RX6 29 "LitmusHall$Reader" "numbers" "[I", Cond.methodLink RX6 115 yX6_noteLate, Cond.instanceMethod yX6_noteLate, Cond.selects RX6 yX6_noteLate yX6_noteLate, Cond.code yX6_noteLate cX6_noteLate 2 none, Cond.fieldLink RX6 42 "LitmusHall$Reader" "latePlace" "I", Cond.methodLink RX6 171 yX6_takeSkip, Cond.instanceMethod yX6_takeSkip, Cond.selects RX6 yX6_takeSkip yX6_takeSkip, Cond.code yX6_takeSkip cX6_takeSkip 1 (some .boolean), Cond.methodLink RX6 111 yX6_takeVal, Cond.instanceMethod yX6_takeVal, Cond.selects RX6 yX6_takeVal yX6_takeVal, Cond.code yX6_takeVal cX6_takeVal 3 (some .boolean)]
def wsX6_readPart : List Cond := .code yX6_readPart cX6_readPart 5 (some .boolean) :: ((wsX6_readPart_r1 ++ wsX6_readPart_r2) ++ wsX60 ++ wsX40)
def wsX6_readIns_r1 : List Cond := [Cond.fieldLink RX6 22 "LitmusHall$Reader" "kinds" "[I", Cond.fieldLink RX6 45 "LitmusHall$Reader" "at" "I", Cond.fieldLink RX6 12 "LitmusHall$Reader" "draft" "LLitmusHall$Program;", Cond.fieldLink RX6 32 "LitmusHall$Reader" "skipTokens" "[I", Cond.methodLink RX6 102 yX6_take, Cond.instanceMethod yX6_take, Cond.selects RX6 yX6_take yX6_take, Cond.initialized RX6, Cond.code yX6_take cX6_take 2 (some .boolean), Cond.methodLink RX6 96 yX6_fail, Cond.instanceMethod yX6_fail, Cond.selects RX6 yX6_fail yX6_fail, Cond.code yX6_fail cX6_fail 2 (some .boolean), Cond.fieldLink RX6 39 "LitmusHall$Reader" "fault" "I", Cond.fieldLink RX6 26 "LitmusHall$Reader" "starts" "[I", Cond.fieldLink RX6 18 "LitmusHall$Reader" "place" "I", Cond.methodLink RX6 135 yX4_addBlank, Cond.instanceMethod yX4_addBlank, Cond.selects RX4 yX4_addBlank yX4_addBlank, Cond.initialized RX4, Cond.code yX4_addBlank cX4_addBlank 4 (some .int), Cond.fieldLink RX4 9 "LitmusHall$Program" "lengths" "[I", Cond.fieldLink RX4 18 "LitmusHall$Program" "parts" "[I", Cond.methodLink RX4 31 yX4_partsAt]
def wsX6_readIns_r2 : List Cond := [Cond.static yX4_partsAt, Cond.code yX4_partsAt cX4_partsAt 2 (some .int), Cond.methodLink RX6 139 yX6_shapeOf, Cond.static yX6_shapeOf, Cond.code yX6_shapeOf cX6_shapeOf 1 (some (.object "java/lang/String")), Cond.methodLink RX6 143 yJ0_length_8abf5, Cond.instanceMethod yJ0_length_8abf5, Cond.selects RJ0 yJ0_length_8abf5 yJ0_length_8abf5, Cond.initialized RJ0, Cond.code yJ0_length_8abf5 cJ0_length_8abf5 1 (some .int), Cond.fieldLink RJ0 9 "java/lang/String" "value" "[B", Cond.methodLink RJ0 335 yJ0_coder_7d493, Cond.instanceMethod yJ0_coder_7d493, Cond.selects RJ0 yJ0_coder_7d493 yJ0_coder_7d493, Cond.code yJ0_coder_7d493 cJ0_coder_7d493 1 (some .byte), Cond.fieldLink RJ0 38 "java/lang/String" "COMPACT_STRINGS" "Z", Cond.fieldLink RJ0 15 "java/lang/String" "coder" "B", Cond.methodLink RX6 90 yJ0_charAt_5068e, Cond.instanceMethod yJ0_charAt_5068e, Cond.selects RJ0 yJ0_charAt_5068e yJ0_charAt_5068e, Cond.code yJ0_charAt_5068e cJ0_charAt_5068e 2 (some .char), Cond.methodLink RJ0 492 yJ0_isLatin1_aae02, Cond.instanceMethod yJ0_isLatin1_aae02, Cond.selects RJ0 yJ0_isLatin1_aae02 yJ0_isLatin1_aae02]
def wsX6_readIns_r3 : List Cond := [Cond.code yJ0_isLatin1_aae02 cJ0_isLatin1_aae02 1 (some .boolean), Cond.methodLink RJ0 495 yJ1_charAt_3b067, Cond.static yJ1_charAt_3b067, Cond.initialized RJ1, Cond.code yJ1_charAt_3b067 cJ1_charAt_3b067 2 (some .char), Cond.methodLink RJ1 9 yJ0_checkIndex_df160, Cond.static yJ0_checkIndex_df160, Cond.code yJ0_checkIndex_df160 cJ0_checkIndex_df160 2 none, Cond.fieldLink RJ0 1053 "jdk/internal/util/Preconditions" "SIOOBE_FORMATTER" "Ljava/util/function/BiFunction;", Cond.methodLink RJ0 1059 yJ3_checkIndex_8e157, Cond.static yJ3_checkIndex_8e157, Cond.initialized RJ3, Cond.code yJ3_checkIndex_8e157 cJ3_checkIndex_8e157 3 (some .int), Cond.methodLink RJ0 498 yJ2_charAt_3b067, Cond.static yJ2_charAt_3b067, Cond.initialized RJ2, Cond.code yJ2_charAt_3b067 cJ2_charAt_3b067 2 (some .char), Cond.methodLink RJ2 67 yJ2_checkIndex_2214a, Cond.static yJ2_checkIndex_2214a, Cond.code yJ2_checkIndex_2214a cJ2_checkIndex_2214a 2 none, Cond.methodLink RJ2 48 yJ2_length_9d52b, Cond.static yJ2_length_9d52b, Cond.code yJ2_length_9d52b cJ2_length_9d52b 1 (some .int), Cond.methodLink RJ2 414 yJ0_checkIndex_df160]
def wsX6_readIns_r4 : List Cond := [Cond.methodLink RJ2 71 yJ2_getChar_3b067, Cond.static yJ2_getChar_3b067, Cond.code yJ2_getChar_3b067 cJ2_getChar_3b067 2 (some .char), Cond.fieldLink RJ2 44 "java/lang/StringUTF16" "$assertionsDisabled" "Z", Cond.fieldLink RJ2 59 "java/lang/StringUTF16" "HI_BYTE_SHIFT" "I", Cond.fieldLink RJ2 63 "java/lang/StringUTF16" "LO_BYTE_SHIFT" "I", Cond.methodLink RX6 147 yX6_readPart, Cond.instanceMethod yX6_readPart, Cond.selects RX6 yX6_readPart yX6_readPart, Cond.code yX6_readPart cX6_readPart 5 (some .boolean), Cond.fieldLink RX6 168 "LitmusHall$Program" "parts" "[I", Cond.fieldLink RX6 122 "LitmusHall$Reader" "valueReg" "I", Cond.fieldLink RX6 108 "LitmusHall$Reader" "value" "I", Cond.methodLink RX6 165 yX6_takeReg, Cond.instanceMethod yX6_takeReg, Cond.selects RX6 yX6_takeReg yX6_takeReg, Cond.code yX6_takeReg cX6_takeReg 2 (some .boolean), Cond.methodLink RX6 105 yX6_takeCell, Cond.instanceMethod yX6_takeCell, Cond.selects RX6 yX6_takeCell yX6_takeCell, Cond.code yX6_takeCell cX6_takeCell 1 (some .boolean), Cond.fieldLink RX6 29 "LitmusHall$Reader" "numbers" "[I", Cond.methodLink RX6 115 yX6_noteLate, Cond.instanceMethod yX6_noteLate]
def wsX6_readIns_r5 : List Cond := [Cond.selects RX6 yX6_noteLate yX6_noteLate, Cond.code yX6_noteLate cX6_noteLate 2 none, Cond.fieldLink RX6 42 "LitmusHall$Reader" "latePlace" "I", Cond.methodLink RX6 171 yX6_takeSkip, Cond.instanceMethod yX6_takeSkip, Cond.selects RX6 yX6_takeSkip yX6_takeSkip, Cond.code yX6_takeSkip cX6_takeSkip 1 (some .boolean), Cond.methodLink RX6 111 yX6_takeVal, Cond.instanceMethod yX6_takeVal, Cond.selects RX6 yX6_takeVal yX6_takeVal, Cond.code yX6_takeVal cX6_takeVal 3 (some .boolean)]
def wsX6_readIns : List Cond := .code yX6_readIns cX6_readIns 7 (some .boolean) :: ((wsX6_readIns_r1 ++ (wsX6_readIns_r2 ++ (wsX6_readIns_r3 ++ (wsX6_readIns_r4 ++ wsX6_readIns_r5)))) ++ wsX60 ++ wsX40)
def wsX6_checkSkips : List Cond := .code yX6_checkSkips cX6_checkSkips 3 none :: ([.fieldLink RX6 12 "LitmusHall$Reader" "draft" "LLitmusHall$Program;", .fieldLink RX6 174 "LitmusHall$Program" "lengths" "[I", .fieldLink RX6 32 "LitmusHall$Reader" "skipTokens" "[I", .methodLink RX6 177 yX4_part, .instanceMethod yX4_part, .selects RX4 yX4_part yX4_part, .initialized RX4, .code yX4_part cX4_part 4 (some .int), .fieldLink RX4 18 "LitmusHall$Program" "parts" "[I", .methodLink RX4 31 yX4_partsAt, .static yX4_partsAt, .code yX4_partsAt cX4_partsAt 2 (some .int), .methodLink RX6 115 yX6_noteLate, .instanceMethod yX6_noteLate, .selects RX6 yX6_noteLate yX6_noteLate, .initialized RX6, .code yX6_noteLate cX6_noteLate 2 none, .fieldLink RX6 42 "LitmusHall$Reader" "latePlace" "I", .fieldLink RX6 26 "LitmusHall$Reader" "starts" "[I"] ++ wsX60 ++ wsX40)
def wsX6_readCores_r1 : List Cond := [Cond.fieldLink RX6 22 "LitmusHall$Reader" "kinds" "[I", Cond.fieldLink RX6 45 "LitmusHall$Reader" "at" "I", Cond.fieldLink RX6 12 "LitmusHall$Reader" "draft" "LLitmusHall$Program;", Cond.fieldLink RX6 125 "LitmusHall$Program" "cores" "I", Cond.methodLink RX6 102 yX6_take, Cond.instanceMethod yX6_take, Cond.selects RX6 yX6_take yX6_take, Cond.initialized RX6, Cond.code yX6_take cX6_take 2 (some .boolean), Cond.methodLink RX6 96 yX6_fail, Cond.instanceMethod yX6_fail, Cond.selects RX6 yX6_fail yX6_fail, Cond.code yX6_fail cX6_fail 2 (some .boolean), Cond.fieldLink RX6 39 "LitmusHall$Reader" "fault" "I", Cond.fieldLink RX6 26 "LitmusHall$Reader" "starts" "[I", Cond.fieldLink RX6 18 "LitmusHall$Reader" "place" "I", Cond.methodLink RX6 128 yX6_readIns, Cond.instanceMethod yX6_readIns, Cond.selects RX6 yX6_readIns yX6_readIns, Cond.code yX6_readIns cX6_readIns 7 (some .boolean), Cond.fieldLink RX6 32 "LitmusHall$Reader" "skipTokens" "[I", Cond.methodLink RX6 135 yX4_addBlank, Cond.instanceMethod yX4_addBlank, Cond.selects RX4 yX4_addBlank yX4_addBlank]
def wsX6_readCores_r2 : List Cond := [Cond.initialized RX4, Cond.code yX4_addBlank cX4_addBlank 4 (some .int), Cond.fieldLink RX4 9 "LitmusHall$Program" "lengths" "[I", Cond.fieldLink RX4 18 "LitmusHall$Program" "parts" "[I", Cond.methodLink RX4 31 yX4_partsAt, Cond.static yX4_partsAt, Cond.code yX4_partsAt cX4_partsAt 2 (some .int), Cond.methodLink RX6 139 yX6_shapeOf, Cond.static yX6_shapeOf, Cond.code yX6_shapeOf cX6_shapeOf 1 (some (.object "java/lang/String")), Cond.methodLink RX6 143 yJ0_length_8abf5, Cond.instanceMethod yJ0_length_8abf5, Cond.selects RJ0 yJ0_length_8abf5 yJ0_length_8abf5, Cond.initialized RJ0, Cond.code yJ0_length_8abf5 cJ0_length_8abf5 1 (some .int), Cond.fieldLink RJ0 9 "java/lang/String" "value" "[B", Cond.methodLink RJ0 335 yJ0_coder_7d493, Cond.instanceMethod yJ0_coder_7d493, Cond.selects RJ0 yJ0_coder_7d493 yJ0_coder_7d493, Cond.code yJ0_coder_7d493 cJ0_coder_7d493 1 (some .byte), Cond.fieldLink RJ0 38 "java/lang/String" "COMPACT_STRINGS" "Z", Cond.fieldLink RJ0 15 "java/lang/String" "coder" "B", Cond.methodLink RX6 90 yJ0_charAt_5068e, Cond.instanceMethod yJ0_charAt_5068e]
def wsX6_readCores_r3 : List Cond := [Cond.selects RJ0 yJ0_charAt_5068e yJ0_charAt_5068e, Cond.code yJ0_charAt_5068e cJ0_charAt_5068e 2 (some .char), Cond.methodLink RJ0 492 yJ0_isLatin1_aae02, Cond.instanceMethod yJ0_isLatin1_aae02, Cond.selects RJ0 yJ0_isLatin1_aae02 yJ0_isLatin1_aae02, Cond.code yJ0_isLatin1_aae02 cJ0_isLatin1_aae02 1 (some .boolean), Cond.methodLink RJ0 495 yJ1_charAt_3b067, Cond.static yJ1_charAt_3b067, Cond.initialized RJ1, Cond.code yJ1_charAt_3b067 cJ1_charAt_3b067 2 (some .char), Cond.methodLink RJ1 9 yJ0_checkIndex_df160, Cond.static yJ0_checkIndex_df160, Cond.code yJ0_checkIndex_df160 cJ0_checkIndex_df160 2 none, Cond.fieldLink RJ0 1053 "jdk/internal/util/Preconditions" "SIOOBE_FORMATTER" "Ljava/util/function/BiFunction;", Cond.methodLink RJ0 1059 yJ3_checkIndex_8e157, Cond.static yJ3_checkIndex_8e157, Cond.initialized RJ3, Cond.code yJ3_checkIndex_8e157 cJ3_checkIndex_8e157 3 (some .int), Cond.methodLink RJ0 498 yJ2_charAt_3b067, Cond.static yJ2_charAt_3b067, Cond.initialized RJ2, Cond.code yJ2_charAt_3b067 cJ2_charAt_3b067 2 (some .char), Cond.methodLink RJ2 67 yJ2_checkIndex_2214a, Cond.static yJ2_checkIndex_2214a]
def wsX6_readCores_r4 : List Cond := [Cond.code yJ2_checkIndex_2214a cJ2_checkIndex_2214a 2 none, Cond.methodLink RJ2 48 yJ2_length_9d52b, Cond.static yJ2_length_9d52b, Cond.code yJ2_length_9d52b cJ2_length_9d52b 1 (some .int), Cond.methodLink RJ2 414 yJ0_checkIndex_df160, Cond.methodLink RJ2 71 yJ2_getChar_3b067, Cond.static yJ2_getChar_3b067, Cond.code yJ2_getChar_3b067 cJ2_getChar_3b067 2 (some .char), Cond.fieldLink RJ2 44 "java/lang/StringUTF16" "$assertionsDisabled" "Z", Cond.fieldLink RJ2 59 "java/lang/StringUTF16" "HI_BYTE_SHIFT" "I", Cond.fieldLink RJ2 63 "java/lang/StringUTF16" "LO_BYTE_SHIFT" "I", Cond.methodLink RX6 147 yX6_readPart, Cond.instanceMethod yX6_readPart, Cond.selects RX6 yX6_readPart yX6_readPart, Cond.code yX6_readPart cX6_readPart 5 (some .boolean), Cond.fieldLink RX6 168 "LitmusHall$Program" "parts" "[I", Cond.fieldLink RX6 122 "LitmusHall$Reader" "valueReg" "I", Cond.fieldLink RX6 108 "LitmusHall$Reader" "value" "I", Cond.methodLink RX6 165 yX6_takeReg, Cond.instanceMethod yX6_takeReg, Cond.selects RX6 yX6_takeReg yX6_takeReg, Cond.code yX6_takeReg cX6_takeReg 2 (some .boolean), Cond.methodLink RX6 105 yX6_takeCell, Cond.instanceMethod yX6_takeCell]
def wsX6_readCores_r5 : List Cond := [Cond.selects RX6 yX6_takeCell yX6_takeCell, Cond.code yX6_takeCell cX6_takeCell 1 (some .boolean), Cond.fieldLink RX6 29 "LitmusHall$Reader" "numbers" "[I", Cond.methodLink RX6 115 yX6_noteLate, Cond.instanceMethod yX6_noteLate, Cond.selects RX6 yX6_noteLate yX6_noteLate, Cond.code yX6_noteLate cX6_noteLate 2 none, Cond.fieldLink RX6 42 "LitmusHall$Reader" "latePlace" "I", Cond.methodLink RX6 171 yX6_takeSkip, Cond.instanceMethod yX6_takeSkip, Cond.selects RX6 yX6_takeSkip yX6_takeSkip, Cond.code yX6_takeSkip cX6_takeSkip 1 (some .boolean), Cond.methodLink RX6 111 yX6_takeVal, Cond.instanceMethod yX6_takeVal, Cond.selects RX6 yX6_takeVal yX6_takeVal, Cond.code yX6_takeVal cX6_takeVal 3 (some .boolean), Cond.methodLink RX6 132 yX6_checkSkips, Cond.instanceMethod yX6_checkSkips, Cond.selects RX6 yX6_checkSkips yX6_checkSkips, Cond.code yX6_checkSkips cX6_checkSkips 3 none, Cond.fieldLink RX6 174 "LitmusHall$Program" "lengths" "[I", Cond.methodLink RX6 177 yX4_part, Cond.instanceMethod yX4_part, Cond.selects RX4 yX4_part yX4_part]
def wsX6_readCores_r6 : List Cond := [Cond.code yX4_part cX4_part 4 (some .int)]
def wsX6_readCores : List Cond := .code yX6_readCores cX6_readCores 3 (some .boolean) :: ((wsX6_readCores_r1 ++ (wsX6_readCores_r2 ++ (wsX6_readCores_r3 ++ (wsX6_readCores_r4 ++ (wsX6_readCores_r5 ++ wsX6_readCores_r6))))) ++ wsX60 ++ wsX40)
def wsX6_readText_r1 : List Cond := [Cond.fieldLink RX6 39 "LitmusHall$Reader" "fault" "I", Cond.fieldLink RX6 18 "LitmusHall$Reader" "place" "I", Cond.fieldLink RX6 42 "LitmusHall$Reader" "latePlace" "I", Cond.fieldLink RX6 45 "LitmusHall$Reader" "at" "I", Cond.fieldLink RX6 48 "LitmusHall$Reader" "told" "I", Cond.fieldLink RX6 12 "LitmusHall$Reader" "draft" "LLitmusHall$Program;", Cond.methodLink RX6 35 yX6_scan, Cond.instanceMethod yX6_scan, Cond.selects RX6 yX6_scan yX6_scan, Cond.initialized RX6, Cond.code yX6_scan cX6_scan 6 none, Cond.fieldLink RX6 26 "LitmusHall$Reader" "starts" "[I", Cond.fieldLink RX6 22 "LitmusHall$Reader" "kinds" "[I", Cond.fieldLink RX6 29 "LitmusHall$Reader" "numbers" "[I", Cond.methodLink RX6 61 yX6_behindBlanks, Cond.static yX6_behindBlanks, Cond.code yX6_behindBlanks cX6_behindBlanks 5 (some .int), Cond.methodLink RX6 65 yX6_behindRun, Cond.static yX6_behindRun, Cond.code yX6_behindRun cX6_behindRun 7 (some .int), Cond.methodLink RX6 74 yX6_isLetter, Cond.static yX6_isLetter, Cond.code yX6_isLetter cX6_isLetter 1 (some .boolean), Cond.methodLink RX6 78 yX6_isDigit]
def wsX6_readText_r2 : List Cond := [Cond.static yX6_isDigit, Cond.code yX6_isDigit cX6_isDigit 1 (some .boolean), Cond.methodLink RX6 68 yX6_kindOf, Cond.static yX6_kindOf, Cond.code yX6_kindOf cX6_kindOf 3 (some .int), Cond.methodLink RX6 81 yX6_wordKind, Cond.static yX6_wordKind, Cond.code yX6_wordKind cX6_wordKind 4 (some .int), Cond.methodLink RX6 84 yX6_isWord, Cond.static yX6_isWord, Cond.code yX6_isWord cX6_isWord 5 (some .boolean), Cond.methodLink RX6 90 yJ0_charAt_5068e, Cond.instanceMethod yJ0_charAt_5068e, Cond.selects RJ0 yJ0_charAt_5068e yJ0_charAt_5068e, Cond.initialized RJ0, Cond.code yJ0_charAt_5068e cJ0_charAt_5068e 2 (some .char), Cond.fieldLink RJ0 9 "java/lang/String" "value" "[B", Cond.methodLink RJ0 492 yJ0_isLatin1_aae02, Cond.instanceMethod yJ0_isLatin1_aae02, Cond.selects RJ0 yJ0_isLatin1_aae02 yJ0_isLatin1_aae02, Cond.code yJ0_isLatin1_aae02 cJ0_isLatin1_aae02 1 (some .boolean), Cond.fieldLink RJ0 38 "java/lang/String" "COMPACT_STRINGS" "Z", Cond.fieldLink RJ0 15 "java/lang/String" "coder" "B", Cond.methodLink RJ0 495 yJ1_charAt_3b067]
def wsX6_readText_r3 : List Cond := [Cond.static yJ1_charAt_3b067, Cond.initialized RJ1, Cond.code yJ1_charAt_3b067 cJ1_charAt_3b067 2 (some .char), Cond.methodLink RJ1 9 yJ0_checkIndex_df160, Cond.static yJ0_checkIndex_df160, Cond.code yJ0_checkIndex_df160 cJ0_checkIndex_df160 2 none, Cond.fieldLink RJ0 1053 "jdk/internal/util/Preconditions" "SIOOBE_FORMATTER" "Ljava/util/function/BiFunction;", Cond.methodLink RJ0 1059 yJ3_checkIndex_8e157, Cond.static yJ3_checkIndex_8e157, Cond.initialized RJ3, Cond.code yJ3_checkIndex_8e157 cJ3_checkIndex_8e157 3 (some .int), Cond.methodLink RJ0 498 yJ2_charAt_3b067, Cond.static yJ2_charAt_3b067, Cond.initialized RJ2, Cond.code yJ2_charAt_3b067 cJ2_charAt_3b067 2 (some .char), Cond.methodLink RJ2 67 yJ2_checkIndex_2214a, Cond.static yJ2_checkIndex_2214a, Cond.code yJ2_checkIndex_2214a cJ2_checkIndex_2214a 2 none, Cond.methodLink RJ2 48 yJ2_length_9d52b, Cond.static yJ2_length_9d52b, Cond.code yJ2_length_9d52b cJ2_length_9d52b 1 (some .int), Cond.methodLink RJ2 414 yJ0_checkIndex_df160, Cond.methodLink RJ2 71 yJ2_getChar_3b067, Cond.static yJ2_getChar_3b067]
def wsX6_readText_r4 : List Cond := [Cond.code yJ2_getChar_3b067 cJ2_getChar_3b067 2 (some .char), Cond.fieldLink RJ2 44 "java/lang/StringUTF16" "$assertionsDisabled" "Z", Cond.fieldLink RJ2 59 "java/lang/StringUTF16" "HI_BYTE_SHIFT" "I", Cond.fieldLink RJ2 63 "java/lang/StringUTF16" "LO_BYTE_SHIFT" "I", Cond.methodLink RX6 71 yX6_numberOf, Cond.static yX6_numberOf, Cond.code yX6_numberOf cX6_numberOf 5 (some .int), Cond.methodLink RX6 51 yX4_clear, Cond.instanceMethod yX4_clear, Cond.selects RX4 yX4_clear yX4_clear, Cond.initialized RX4, Cond.code yX4_clear cX4_clear 1 none, Cond.fieldLink RX4 21 "LitmusHall$Program" "cores" "I", Cond.fieldLink RX4 9 "LitmusHall$Program" "lengths" "[I", Cond.fieldLink RX4 15 "LitmusHall$Program" "cells" "[I", Cond.methodLink RX4 25 yJ7_fill_53178, Cond.static yJ7_fill_53178, Cond.initialized RJ7, Cond.code yJ7_fill_53178 cJ7_fill_53178 4 none, Cond.methodLink RX6 54 yX6_readCells, Cond.instanceMethod yX6_readCells, Cond.selects RX6 yX6_readCells yX6_readCells, Cond.code yX6_readCells cX6_readCells 2 (some .boolean), Cond.methodLink RX6 99 yX6_readCellLine]
def wsX6_readText_r5 : List Cond := [Cond.instanceMethod yX6_readCellLine, Cond.selects RX6 yX6_readCellLine yX6_readCellLine, Cond.code yX6_readCellLine cX6_readCellLine 3 (some .boolean), Cond.fieldLink RX6 108 "LitmusHall$Reader" "value" "I", Cond.fieldLink RX6 119 "LitmusHall$Program" "cells" "[I", Cond.methodLink RX6 102 yX6_take, Cond.instanceMethod yX6_take, Cond.selects RX6 yX6_take yX6_take, Cond.code yX6_take cX6_take 2 (some .boolean), Cond.methodLink RX6 96 yX6_fail, Cond.instanceMethod yX6_fail, Cond.selects RX6 yX6_fail yX6_fail, Cond.code yX6_fail cX6_fail 2 (some .boolean), Cond.methodLink RX6 105 yX6_takeCell, Cond.instanceMethod yX6_takeCell, Cond.selects RX6 yX6_takeCell yX6_takeCell, Cond.code yX6_takeCell cX6_takeCell 1 (some .boolean), Cond.methodLink RX6 115 yX6_noteLate, Cond.instanceMethod yX6_noteLate, Cond.selects RX6 yX6_noteLate yX6_noteLate, Cond.code yX6_noteLate cX6_noteLate 2 none, Cond.methodLink RX6 111 yX6_takeVal, Cond.instanceMethod yX6_takeVal, Cond.selects RX6 yX6_takeVal yX6_takeVal]
def wsX6_readText_r6 : List Cond := [Cond.code yX6_takeVal cX6_takeVal 3 (some .boolean), Cond.fieldLink RX6 122 "LitmusHall$Reader" "valueReg" "I", Cond.methodLink RX6 58 yX6_readCores, Cond.instanceMethod yX6_readCores, Cond.selects RX6 yX6_readCores yX6_readCores, Cond.code yX6_readCores cX6_readCores 3 (some .boolean), Cond.fieldLink RX6 125 "LitmusHall$Program" "cores" "I", Cond.methodLink RX6 128 yX6_readIns, Cond.instanceMethod yX6_readIns, Cond.selects RX6 yX6_readIns yX6_readIns, Cond.code yX6_readIns cX6_readIns 7 (some .boolean), Cond.fieldLink RX6 32 "LitmusHall$Reader" "skipTokens" "[I", Cond.methodLink RX6 135 yX4_addBlank, Cond.instanceMethod yX4_addBlank, Cond.selects RX4 yX4_addBlank yX4_addBlank, Cond.code yX4_addBlank cX4_addBlank 4 (some .int), Cond.fieldLink RX4 18 "LitmusHall$Program" "parts" "[I", Cond.methodLink RX4 31 yX4_partsAt, Cond.static yX4_partsAt, Cond.code yX4_partsAt cX4_partsAt 2 (some .int), Cond.methodLink RX6 139 yX6_shapeOf, Cond.static yX6_shapeOf, Cond.code yX6_shapeOf cX6_shapeOf 1 (some (.object "java/lang/String")), Cond.methodLink RX6 143 yJ0_length_8abf5]
def wsX6_readText_r7 : List Cond := [Cond.instanceMethod yJ0_length_8abf5, Cond.selects RJ0 yJ0_length_8abf5 yJ0_length_8abf5, Cond.code yJ0_length_8abf5 cJ0_length_8abf5 1 (some .int), Cond.methodLink RJ0 335 yJ0_coder_7d493, Cond.instanceMethod yJ0_coder_7d493, Cond.selects RJ0 yJ0_coder_7d493 yJ0_coder_7d493, Cond.code yJ0_coder_7d493 cJ0_coder_7d493 1 (some .byte), Cond.methodLink RX6 147 yX6_readPart, Cond.instanceMethod yX6_readPart, Cond.selects RX6 yX6_readPart yX6_readPart, Cond.code yX6_readPart cX6_readPart 5 (some .boolean), Cond.fieldLink RX6 168 "LitmusHall$Program" "parts" "[I", Cond.methodLink RX6 165 yX6_takeReg, Cond.instanceMethod yX6_takeReg, Cond.selects RX6 yX6_takeReg yX6_takeReg, Cond.code yX6_takeReg cX6_takeReg 2 (some .boolean), Cond.methodLink RX6 171 yX6_takeSkip, Cond.instanceMethod yX6_takeSkip, Cond.selects RX6 yX6_takeSkip yX6_takeSkip, Cond.code yX6_takeSkip cX6_takeSkip 1 (some .boolean), Cond.methodLink RX6 132 yX6_checkSkips, Cond.instanceMethod yX6_checkSkips, Cond.selects RX6 yX6_checkSkips yX6_checkSkips, Cond.code yX6_checkSkips cX6_checkSkips 3 none]
def wsX6_readText_r8 : List Cond := [Cond.fieldLink RX6 174 "LitmusHall$Program" "lengths" "[I", Cond.methodLink RX6 177 yX4_part, Cond.instanceMethod yX4_part, Cond.selects RX4 yX4_part yX4_part, Cond.code yX4_part cX4_part 4 (some .int)]
def wsX6_readText : List Cond := .code yX6_readText cX6_readText 3 (some .int) :: ((wsX6_readText_r1 ++ (wsX6_readText_r2 ++ (wsX6_readText_r3 ++ (wsX6_readText_r4 ++ (wsX6_readText_r5 ++ (wsX6_readText_r6 ++ (wsX6_readText_r7 ++ wsX6_readText_r8))))))) ++ wsX60 ++ wsX40)
def wsX8_init_r1 : List Cond := [Cond.methodLink RX8 3 objectInit, Cond.instanceMethod objectInit, Cond.code objectInit ⟨#[0xb1]⟩ 1 none, Cond.arrayClass .byte, Cond.fieldLink RX8 9 "LitmusHall" "tape" "[B", Cond.classLink RX8 13 RX6, Cond.instantiable RX6 12, Cond.initialized RX6, Cond.fieldLink RX8 16 "LitmusHall" "reader" "LLitmusHall$Reader;", Cond.fieldLink RX8 20 "LitmusHall" "faultPlace" "I", Cond.classLink RX8 24 RX4, Cond.instantiable RX4 4, Cond.initialized RX4, Cond.fieldLink RX8 27 "LitmusHall" "program" "LLitmusHall$Program;", Cond.classLink RX8 31 RX3, Cond.instantiable RX3 5, Cond.initialized RX3, Cond.fieldLink RX8 34 "LitmusHall" "machine" "LLitmusHall$Machine;", Cond.classLink RX8 38 RX2, Cond.instantiable RX2 5, Cond.initialized RX2, Cond.fieldLink RX8 41 "LitmusHall" "withRows" "LLitmusHall$Findings;", Cond.fieldLink RX8 45 "LitmusHall" "withoutRows" "LLitmusHall$Findings;", Cond.classLink RX8 48 RX5]
def wsX8_init_r2 : List Cond := [Cond.instantiable RX5 7, Cond.initialized RX5, Cond.fieldLink RX8 51 "LitmusHall" "theRace" "LLitmusHall$Race;", Cond.classLink RX8 55 RX0, Cond.instantiable RX0 6, Cond.initialized RX0, Cond.fieldLink RX8 58 "LitmusHall" "theCure" "LLitmusHall$Cure;", Cond.instanceMethod yX6_init, Cond.code yX6_init cX6_init 1 none, Cond.methodLink RX6 3 objectInit, Cond.classLink RX6 9 RX4, Cond.fieldLink RX6 12 "LitmusHall$Reader" "draft" "LLitmusHall$Program;", Cond.fieldLink RX6 18 "LitmusHall$Reader" "place" "I", Cond.arrayClass .int, Cond.fieldLink RX6 22 "LitmusHall$Reader" "kinds" "[I", Cond.fieldLink RX6 26 "LitmusHall$Reader" "starts" "[I", Cond.fieldLink RX6 29 "LitmusHall$Reader" "numbers" "[I", Cond.fieldLink RX6 32 "LitmusHall$Reader" "skipTokens" "[I", Cond.instanceMethod yX4_init, Cond.code yX4_init cX4_init 1 none, Cond.methodLink RX4 3 objectInit, Cond.fieldLink RX4 9 "LitmusHall$Program" "lengths" "[I", Cond.fieldLink RX4 15 "LitmusHall$Program" "cells" "[I", Cond.fieldLink RX4 18 "LitmusHall$Program" "parts" "[I"]
def wsX8_init_r3 : List Cond := [Cond.instanceMethod yX3_init, Cond.code yX3_init cX3_init 1 none, Cond.methodLink RX3 3 objectInit, Cond.classLink RX3 9 RX7, Cond.instantiable RX7 1, Cond.initialized RX7, Cond.fieldLink RX3 12 "LitmusHall$Machine" "state" "LLitmusHall$State;", Cond.fieldLink RX3 18 "LitmusHall$Machine" "done" "[I", Cond.instanceMethod yX7_init, Cond.code yX7_init cX7_init 1 none, Cond.methodLink RX7 5 objectInit, Cond.fieldLink RX7 11 "LitmusHall$State" "words" "[I", Cond.instanceMethod yX2_init, Cond.code yX2_init cX2_init 1 none, Cond.methodLink RX2 5 objectInit, Cond.fieldLink RX2 11 "LitmusHall$Findings" "records" "[I", Cond.instanceMethod yX5_init, Cond.code yX5_init cX5_init 1 none, Cond.methodLink RX5 3 objectInit, Cond.fieldLink RX5 9 "LitmusHall$Race" "path" "[I", Cond.instanceMethod yX0_init, Cond.code yX0_init cX0_init 1 none, Cond.methodLink RX0 3 objectInit, Cond.classLink RX0 9 RX4]
def wsX8_init_r4 : List Cond := [Cond.fieldLink RX0 12 "LitmusHall$Cure" "fenced" "LLitmusHall$Program;", Cond.fieldLink RX0 18 "LitmusHall$Cure" "answer" "I", Cond.fieldLink RX0 22 "LitmusHall$Cure" "looked" "[I", Cond.fieldLink RX0 26 "LitmusHall$Cure" "told" "[I"]
def wsX8_init : List Cond := .code yX8_init cX8_init 1 none :: ((wsX8_init_r1 ++ (wsX8_init_r2 ++ (wsX8_init_r3 ++ wsX8_init_r4))) ++ wsX80 ++ wsX60 ++ wsX40 ++ wsX30 ++ wsX20 ++ wsX50 ++ wsX00 ++ wsX70)
def wsX8_feedWord : List Cond := .code yX8_feedWord cX8_feedWord 3 none :: ([.fieldLink RX8 62 "LitmusHall" "tapeSize" "I", .fieldLink RX8 9 "LitmusHall" "tape" "[B"] ++ wsX80)
def wsX8_feed : List Cond := .code yX8_feed cX8_feed 6 (some .int) :: ([.fieldLink RX8 62 "LitmusHall" "tapeSize" "I", .methodLink RX8 65 yX8_feedWord, .instanceMethod yX8_feedWord, .selects RX8 yX8_feedWord yX8_feedWord, .initialized RX8, .code yX8_feedWord cX8_feedWord 3 none, .fieldLink RX8 9 "LitmusHall" "tape" "[B"] ++ wsX80)
def wsX8_back : List Cond := .code yX8_back cX8_back 2 (some .int) :: ([.fieldLink RX8 62 "LitmusHall" "tapeSize" "I"] ++ wsX80)
def wsX8_forgetFindings : List Cond := .code yX8_forgetFindings cX8_forgetFindings 1 none :: ([.fieldLink RX8 34 "LitmusHall" "machine" "LLitmusHall$Machine;", .fieldLink RX8 86 "LitmusHall$Machine" "stands" "Z", .fieldLink RX8 41 "LitmusHall" "withRows" "LLitmusHall$Findings;", .fieldLink RX8 89 "LitmusHall$Findings" "known" "Z", .fieldLink RX8 45 "LitmusHall" "withoutRows" "LLitmusHall$Findings;", .fieldLink RX8 51 "LitmusHall" "theRace" "LLitmusHall$Race;", .fieldLink RX8 92 "LitmusHall$Race" "known" "Z", .fieldLink RX8 58 "LitmusHall" "theCure" "LLitmusHall$Cure;", .methodLink RX8 93 yX0_forgetSearch, .instanceMethod yX0_forgetSearch, .selects RX0 yX0_forgetSearch yX0_forgetSearch, .initialized RX0, .code yX0_forgetSearch cX0_forgetSearch 1 none, .fieldLink RX0 29 "LitmusHall$Cure" "lookedSizes" "I", .fieldLink RX0 18 "LitmusHall$Cure" "answer" "I"] ++ wsX80 ++ wsX30 ++ wsX20 ++ wsX50 ++ wsX00)
def wsX8_read_r1 : List Cond := [Cond.fieldLink RX8 16 "LitmusHall" "reader" "LLitmusHall$Reader;", Cond.fieldLink RX8 9 "LitmusHall" "tape" "[B", Cond.fieldLink RX8 62 "LitmusHall" "tapeSize" "I", Cond.fieldLink RX8 73 "LitmusHall$Reader" "place" "I", Cond.fieldLink RX8 20 "LitmusHall" "faultPlace" "I", Cond.fieldLink RX8 27 "LitmusHall" "program" "LLitmusHall$Program;", Cond.fieldLink RX8 76 "LitmusHall$Reader" "draft" "LLitmusHall$Program;", Cond.fieldLink RX8 79 "LitmusHall" "loaded" "Z", Cond.methodLink RX8 69 yX6_readText, Cond.instanceMethod yX6_readText, Cond.selects RX6 yX6_readText yX6_readText, Cond.initialized RX6, Cond.code yX6_readText cX6_readText 3 (some .int), Cond.fieldLink RX6 39 "LitmusHall$Reader" "fault" "I", Cond.fieldLink RX6 18 "LitmusHall$Reader" "place" "I", Cond.fieldLink RX6 42 "LitmusHall$Reader" "latePlace" "I", Cond.fieldLink RX6 45 "LitmusHall$Reader" "at" "I", Cond.fieldLink RX6 48 "LitmusHall$Reader" "told" "I", Cond.fieldLink RX6 12 "LitmusHall$Reader" "draft" "LLitmusHall$Program;", Cond.methodLink RX6 35 yX6_scan, Cond.instanceMethod yX6_scan, Cond.selects RX6 yX6_scan yX6_scan, Cond.code yX6_scan cX6_scan 6 none, Cond.fieldLink RX6 26 "LitmusHall$Reader" "starts" "[I"]
def wsX8_read_r2 : List Cond := [Cond.fieldLink RX6 22 "LitmusHall$Reader" "kinds" "[I", Cond.fieldLink RX6 29 "LitmusHall$Reader" "numbers" "[I", Cond.methodLink RX6 61 yX6_behindBlanks, Cond.static yX6_behindBlanks, Cond.code yX6_behindBlanks cX6_behindBlanks 5 (some .int), Cond.methodLink RX6 65 yX6_behindRun, Cond.static yX6_behindRun, Cond.code yX6_behindRun cX6_behindRun 7 (some .int), Cond.methodLink RX6 74 yX6_isLetter, Cond.static yX6_isLetter, Cond.code yX6_isLetter cX6_isLetter 1 (some .boolean), Cond.methodLink RX6 78 yX6_isDigit, Cond.static yX6_isDigit, Cond.code yX6_isDigit cX6_isDigit 1 (some .boolean), Cond.methodLink RX6 68 yX6_kindOf, Cond.static yX6_kindOf, Cond.code yX6_kindOf cX6_kindOf 3 (some .int), Cond.methodLink RX6 81 yX6_wordKind, Cond.static yX6_wordKind, Cond.code yX6_wordKind cX6_wordKind 4 (some .int), Cond.methodLink RX6 84 yX6_isWord, Cond.static yX6_isWord, Cond.code yX6_isWord cX6_isWord 5 (some .boolean), Cond.methodLink RX6 90 yJ0_charAt_5068e]
def wsX8_read_r3 : List Cond := [Cond.instanceMethod yJ0_charAt_5068e, Cond.selects RJ0 yJ0_charAt_5068e yJ0_charAt_5068e, Cond.initialized RJ0, Cond.code yJ0_charAt_5068e cJ0_charAt_5068e 2 (some .char), Cond.fieldLink RJ0 9 "java/lang/String" "value" "[B", Cond.methodLink RJ0 492 yJ0_isLatin1_aae02, Cond.instanceMethod yJ0_isLatin1_aae02, Cond.selects RJ0 yJ0_isLatin1_aae02 yJ0_isLatin1_aae02, Cond.code yJ0_isLatin1_aae02 cJ0_isLatin1_aae02 1 (some .boolean), Cond.fieldLink RJ0 38 "java/lang/String" "COMPACT_STRINGS" "Z", Cond.fieldLink RJ0 15 "java/lang/String" "coder" "B", Cond.methodLink RJ0 495 yJ1_charAt_3b067, Cond.static yJ1_charAt_3b067, Cond.initialized RJ1, Cond.code yJ1_charAt_3b067 cJ1_charAt_3b067 2 (some .char), Cond.methodLink RJ1 9 yJ0_checkIndex_df160, Cond.static yJ0_checkIndex_df160, Cond.code yJ0_checkIndex_df160 cJ0_checkIndex_df160 2 none, Cond.fieldLink RJ0 1053 "jdk/internal/util/Preconditions" "SIOOBE_FORMATTER" "Ljava/util/function/BiFunction;", Cond.methodLink RJ0 1059 yJ3_checkIndex_8e157, Cond.static yJ3_checkIndex_8e157, Cond.initialized RJ3, Cond.code yJ3_checkIndex_8e157 cJ3_checkIndex_8e157 3 (some .int), Cond.methodLink RJ0 498 yJ2_charAt_3b067]
def wsX8_read_r4 : List Cond := [Cond.static yJ2_charAt_3b067, Cond.initialized RJ2, Cond.code yJ2_charAt_3b067 cJ2_charAt_3b067 2 (some .char), Cond.methodLink RJ2 67 yJ2_checkIndex_2214a, Cond.static yJ2_checkIndex_2214a, Cond.code yJ2_checkIndex_2214a cJ2_checkIndex_2214a 2 none, Cond.methodLink RJ2 48 yJ2_length_9d52b, Cond.static yJ2_length_9d52b, Cond.code yJ2_length_9d52b cJ2_length_9d52b 1 (some .int), Cond.methodLink RJ2 414 yJ0_checkIndex_df160, Cond.methodLink RJ2 71 yJ2_getChar_3b067, Cond.static yJ2_getChar_3b067, Cond.code yJ2_getChar_3b067 cJ2_getChar_3b067 2 (some .char), Cond.fieldLink RJ2 44 "java/lang/StringUTF16" "$assertionsDisabled" "Z", Cond.fieldLink RJ2 59 "java/lang/StringUTF16" "HI_BYTE_SHIFT" "I", Cond.fieldLink RJ2 63 "java/lang/StringUTF16" "LO_BYTE_SHIFT" "I", Cond.methodLink RX6 71 yX6_numberOf, Cond.static yX6_numberOf, Cond.code yX6_numberOf cX6_numberOf 5 (some .int), Cond.methodLink RX6 51 yX4_clear, Cond.instanceMethod yX4_clear, Cond.selects RX4 yX4_clear yX4_clear, Cond.initialized RX4, Cond.code yX4_clear cX4_clear 1 none]
def wsX8_read_r5 : List Cond := [Cond.fieldLink RX4 21 "LitmusHall$Program" "cores" "I", Cond.fieldLink RX4 9 "LitmusHall$Program" "lengths" "[I", Cond.fieldLink RX4 15 "LitmusHall$Program" "cells" "[I", Cond.methodLink RX4 25 yJ7_fill_53178, Cond.static yJ7_fill_53178, Cond.initialized RJ7, Cond.code yJ7_fill_53178 cJ7_fill_53178 4 none, Cond.methodLink RX6 54 yX6_readCells, Cond.instanceMethod yX6_readCells, Cond.selects RX6 yX6_readCells yX6_readCells, Cond.code yX6_readCells cX6_readCells 2 (some .boolean), Cond.methodLink RX6 99 yX6_readCellLine, Cond.instanceMethod yX6_readCellLine, Cond.selects RX6 yX6_readCellLine yX6_readCellLine, Cond.code yX6_readCellLine cX6_readCellLine 3 (some .boolean), Cond.fieldLink RX6 108 "LitmusHall$Reader" "value" "I", Cond.fieldLink RX6 119 "LitmusHall$Program" "cells" "[I", Cond.methodLink RX6 102 yX6_take, Cond.instanceMethod yX6_take, Cond.selects RX6 yX6_take yX6_take, Cond.code yX6_take cX6_take 2 (some .boolean), Cond.methodLink RX6 96 yX6_fail, Cond.instanceMethod yX6_fail, Cond.selects RX6 yX6_fail yX6_fail]
def wsX8_read_r6 : List Cond := [Cond.code yX6_fail cX6_fail 2 (some .boolean), Cond.methodLink RX6 105 yX6_takeCell, Cond.instanceMethod yX6_takeCell, Cond.selects RX6 yX6_takeCell yX6_takeCell, Cond.code yX6_takeCell cX6_takeCell 1 (some .boolean), Cond.methodLink RX6 115 yX6_noteLate, Cond.instanceMethod yX6_noteLate, Cond.selects RX6 yX6_noteLate yX6_noteLate, Cond.code yX6_noteLate cX6_noteLate 2 none, Cond.methodLink RX6 111 yX6_takeVal, Cond.instanceMethod yX6_takeVal, Cond.selects RX6 yX6_takeVal yX6_takeVal, Cond.code yX6_takeVal cX6_takeVal 3 (some .boolean), Cond.fieldLink RX6 122 "LitmusHall$Reader" "valueReg" "I", Cond.methodLink RX6 58 yX6_readCores, Cond.instanceMethod yX6_readCores, Cond.selects RX6 yX6_readCores yX6_readCores, Cond.code yX6_readCores cX6_readCores 3 (some .boolean), Cond.fieldLink RX6 125 "LitmusHall$Program" "cores" "I", Cond.methodLink RX6 128 yX6_readIns, Cond.instanceMethod yX6_readIns, Cond.selects RX6 yX6_readIns yX6_readIns, Cond.code yX6_readIns cX6_readIns 7 (some .boolean), Cond.fieldLink RX6 32 "LitmusHall$Reader" "skipTokens" "[I"]
def wsX8_read_r7 : List Cond := [Cond.methodLink RX6 135 yX4_addBlank, Cond.instanceMethod yX4_addBlank, Cond.selects RX4 yX4_addBlank yX4_addBlank, Cond.code yX4_addBlank cX4_addBlank 4 (some .int), Cond.fieldLink RX4 18 "LitmusHall$Program" "parts" "[I", Cond.methodLink RX4 31 yX4_partsAt, Cond.static yX4_partsAt, Cond.code yX4_partsAt cX4_partsAt 2 (some .int), Cond.methodLink RX6 139 yX6_shapeOf, Cond.static yX6_shapeOf, Cond.code yX6_shapeOf cX6_shapeOf 1 (some (.object "java/lang/String")), Cond.methodLink RX6 143 yJ0_length_8abf5, Cond.instanceMethod yJ0_length_8abf5, Cond.selects RJ0 yJ0_length_8abf5 yJ0_length_8abf5, Cond.code yJ0_length_8abf5 cJ0_length_8abf5 1 (some .int), Cond.methodLink RJ0 335 yJ0_coder_7d493, Cond.instanceMethod yJ0_coder_7d493, Cond.selects RJ0 yJ0_coder_7d493 yJ0_coder_7d493, Cond.code yJ0_coder_7d493 cJ0_coder_7d493 1 (some .byte), Cond.methodLink RX6 147 yX6_readPart, Cond.instanceMethod yX6_readPart, Cond.selects RX6 yX6_readPart yX6_readPart, Cond.code yX6_readPart cX6_readPart 5 (some .boolean), Cond.fieldLink RX6 168 "LitmusHall$Program" "parts" "[I"]
def wsX8_read_r8 : List Cond := [Cond.methodLink RX6 165 yX6_takeReg, Cond.instanceMethod yX6_takeReg, Cond.selects RX6 yX6_takeReg yX6_takeReg, Cond.code yX6_takeReg cX6_takeReg 2 (some .boolean), Cond.methodLink RX6 171 yX6_takeSkip, Cond.instanceMethod yX6_takeSkip, Cond.selects RX6 yX6_takeSkip yX6_takeSkip, Cond.code yX6_takeSkip cX6_takeSkip 1 (some .boolean), Cond.methodLink RX6 132 yX6_checkSkips, Cond.instanceMethod yX6_checkSkips, Cond.selects RX6 yX6_checkSkips yX6_checkSkips, Cond.code yX6_checkSkips cX6_checkSkips 3 none, Cond.fieldLink RX6 174 "LitmusHall$Program" "lengths" "[I", Cond.methodLink RX6 177 yX4_part, Cond.instanceMethod yX4_part, Cond.selects RX4 yX4_part yX4_part, Cond.code yX4_part cX4_part 4 (some .int), Cond.methodLink RX8 83 yX8_forgetFindings, Cond.instanceMethod yX8_forgetFindings, Cond.selects RX8 yX8_forgetFindings yX8_forgetFindings, Cond.initialized RX8, Cond.code yX8_forgetFindings cX8_forgetFindings 1 none, Cond.fieldLink RX8 34 "LitmusHall" "machine" "LLitmusHall$Machine;", Cond.fieldLink RX8 86 "LitmusHall$Machine" "stands" "Z"]
def wsX8_read_r9 : List Cond := [Cond.fieldLink RX8 41 "LitmusHall" "withRows" "LLitmusHall$Findings;", Cond.fieldLink RX8 89 "LitmusHall$Findings" "known" "Z", Cond.fieldLink RX8 45 "LitmusHall" "withoutRows" "LLitmusHall$Findings;", Cond.fieldLink RX8 51 "LitmusHall" "theRace" "LLitmusHall$Race;", Cond.fieldLink RX8 92 "LitmusHall$Race" "known" "Z", Cond.fieldLink RX8 58 "LitmusHall" "theCure" "LLitmusHall$Cure;", Cond.methodLink RX8 93 yX0_forgetSearch, Cond.instanceMethod yX0_forgetSearch, Cond.selects RX0 yX0_forgetSearch yX0_forgetSearch, Cond.initialized RX0, Cond.code yX0_forgetSearch cX0_forgetSearch 1 none, Cond.fieldLink RX0 29 "LitmusHall$Cure" "lookedSizes" "I", Cond.fieldLink RX0 18 "LitmusHall$Cure" "answer" "I"]
def wsX8_read : List Cond := .code yX8_read cX8_read 3 (some .int) :: ((wsX8_read_r1 ++ (wsX8_read_r2 ++ (wsX8_read_r3 ++ (wsX8_read_r4 ++ (wsX8_read_r5 ++ (wsX8_read_r6 ++ (wsX8_read_r7 ++ (wsX8_read_r8 ++ wsX8_read_r9)))))))) ++ wsX80 ++ wsX60 ++ wsX40 ++ wsX30 ++ wsX20 ++ wsX50 ++ wsX00)
def wsX8_place : List Cond := .code yX8_place cX8_place 1 (some .int) :: ([.fieldLink RX8 20 "LitmusHall" "faultPlace" "I"] ++ wsX80)
def wsX8_hasCore : List Cond := .code yX8_hasCore cX8_hasCore 2 (some .boolean) :: ([.fieldLink RX8 79 "LitmusHall" "loaded" "Z", .fieldLink RX8 27 "LitmusHall" "program" "LLitmusHall$Program;", .fieldLink RX8 108 "LitmusHall$Program" "cores" "I"] ++ wsX80 ++ wsX40)
def wsX8_ins : List Cond := .code yX8_ins cX8_ins 4 (some .int) :: ([.fieldLink RX8 27 "LitmusHall" "program" "LLitmusHall$Program;", .fieldLink RX8 100 "LitmusHall$Program" "lengths" "[I", .methodLink RX8 96 yX8_hasCore, .instanceMethod yX8_hasCore, .selects RX8 yX8_hasCore yX8_hasCore, .initialized RX8, .code yX8_hasCore cX8_hasCore 2 (some .boolean), .fieldLink RX8 79 "LitmusHall" "loaded" "Z", .fieldLink RX8 108 "LitmusHall$Program" "cores" "I", .methodLink RX8 104 yX4_part, .instanceMethod yX4_part, .selects RX4 yX4_part yX4_part, .initialized RX4, .code yX4_part cX4_part 4 (some .int), .fieldLink RX4 18 "LitmusHall$Program" "parts" "[I", .methodLink RX4 31 yX4_partsAt, .static yX4_partsAt, .code yX4_partsAt cX4_partsAt 2 (some .int)] ++ wsX80 ++ wsX40)
def wsX8_isMode : List Cond := .code yX8_isMode cX8_isMode 1 (some .boolean) :: ([])
def wsX8_begin_r1 : List Cond := [Cond.fieldLink RX8 79 "LitmusHall" "loaded" "Z", Cond.fieldLink RX8 34 "LitmusHall" "machine" "LLitmusHall$Machine;", Cond.fieldLink RX8 27 "LitmusHall" "program" "LLitmusHall$Program;", Cond.methodLink RX8 111 yX8_isMode, Cond.static yX8_isMode, Cond.initialized RX8, Cond.code yX8_isMode cX8_isMode 1 (some .boolean), Cond.methodLink RX8 114 yX3_start, Cond.instanceMethod yX3_start, Cond.selects RX3 yX3_start yX3_start, Cond.initialized RX3, Cond.code yX3_start cX3_start 3 none, Cond.fieldLink RX3 22 "LitmusHall$Machine" "stands" "Z", Cond.fieldLink RX3 26 "LitmusHall$Machine" "mode" "I", Cond.fieldLink RX3 30 "LitmusHall$Machine" "steps" "I", Cond.fieldLink RX3 12 "LitmusHall$Machine" "state" "LLitmusHall$State;", Cond.methodLink RX3 33 yX7_start, Cond.instanceMethod yX7_start, Cond.selects RX7 yX7_start yX7_start, Cond.initialized RX7, Cond.code yX7_start cX7_start 2 none, Cond.fieldLink RX7 11 "LitmusHall$State" "words" "[I", Cond.fieldLink RX7 27 "LitmusHall$Program" "cells" "[I", Cond.methodLink RX7 30 arraycopyName]
def wsX8_begin_r2 : List Cond := [Cond.native arraycopyName, Cond.static arraycopyName, Cond.initialized "java/lang/System", Cond.methodLink RX7 21 yJ7_fill_53178, Cond.static yJ7_fill_53178, Cond.initialized RJ7, Cond.code yJ7_fill_53178 cJ7_fill_53178 4 none]
def wsX8_begin : List Cond := .code yX8_begin cX8_begin 2 (some .boolean) :: ((wsX8_begin_r1 ++ wsX8_begin_r2) ++ wsX80 ++ wsX30 ++ wsX70 ++ wsX40)
def wsX8_step_r1 : List Cond := [Cond.fieldLink RX8 34 "LitmusHall" "machine" "LLitmusHall$Machine;", Cond.fieldLink RX8 86 "LitmusHall$Machine" "stands" "Z", Cond.fieldLink RX8 27 "LitmusHall" "program" "LLitmusHall$Program;", Cond.methodLink RX8 118 yX3_go, Cond.instanceMethod yX3_go, Cond.selects RX3 yX3_go yX3_go, Cond.initialized RX3, Cond.code yX3_go cX3_go 3 (some .boolean), Cond.fieldLink RX3 30 "LitmusHall$Machine" "steps" "I", Cond.fieldLink RX3 12 "LitmusHall$Machine" "state" "LLitmusHall$State;", Cond.fieldLink RX3 26 "LitmusHall$Machine" "mode" "I", Cond.fieldLink RX3 18 "LitmusHall$Machine" "done" "[I", Cond.methodLink RX3 37 yX7_can, Cond.instanceMethod yX7_can, Cond.selects RX7 yX7_can yX7_can, Cond.initialized RX7, Cond.code yX7_can cX7_can 4 (some .boolean), Cond.fieldLink RX7 15 "LitmusHall$Program" "cores" "I", Cond.fieldLink RX7 36 "LitmusHall$Program" "lengths" "[I", Cond.methodLink RX7 39 yX7_rowSize, Cond.instanceMethod yX7_rowSize, Cond.selects RX7 yX7_rowSize yX7_rowSize, Cond.code yX7_rowSize cX7_rowSize 2 (some .int), Cond.fieldLink RX7 11 "LitmusHall$State" "words" "[I"]
def wsX8_step_r2 : List Cond := [Cond.methodLink RX7 43 yX7_nextOf, Cond.instanceMethod yX7_nextOf, Cond.selects RX7 yX7_nextOf yX7_nextOf, Cond.code yX7_nextOf cX7_nextOf 2 (some .int), Cond.methodLink RX7 46 yX4_part, Cond.instanceMethod yX4_part, Cond.selects RX4 yX4_part yX4_part, Cond.initialized RX4, Cond.code yX4_part cX4_part 4 (some .int), Cond.fieldLink RX4 18 "LitmusHall$Program" "parts" "[I", Cond.methodLink RX4 31 yX4_partsAt, Cond.static yX4_partsAt, Cond.code yX4_partsAt cX4_partsAt 2 (some .int), Cond.methodLink RX7 50 yX7_waits, Cond.static yX7_waits, Cond.code yX7_waits cX7_waits 1 (some .boolean), Cond.methodLink RX7 54 yX7_isLocked, Cond.static yX7_isLocked, Cond.code yX7_isLocked cX7_isLocked 1 (some .boolean), Cond.methodLink RX3 41 yX7_move, Cond.instanceMethod yX7_move, Cond.selects RX7 yX7_move yX7_move, Cond.code yX7_move cX7_move 8 none, Cond.fieldLink RX7 61 "LitmusHall$Program" "parts" "[I"]
def wsX8_step_r3 : List Cond := [Cond.methodLink RX7 57 yX7_letGo, Cond.instanceMethod yX7_letGo, Cond.selects RX7 yX7_letGo yX7_letGo, Cond.code yX7_letGo cX7_letGo 5 none, Cond.methodLink RX7 30 arraycopyName, Cond.native arraycopyName, Cond.static arraycopyName, Cond.initialized "java/lang/System", Cond.constant RX7 89 (-524161), Cond.methodLink RX7 86 yX7_rowCell, Cond.instanceMethod yX7_rowCell, Cond.selects RX7 yX7_rowCell yX7_rowCell, Cond.code yX7_rowCell cX7_rowCell 3 (some .int), Cond.methodLink RX7 64 yX4_partsAt, Cond.methodLink RX7 68 yX7_seen, Cond.instanceMethod yX7_seen, Cond.selects RX7 yX7_seen yX7_seen, Cond.code yX7_seen cX7_seen 4 (some .int), Cond.methodLink RX7 90 yX7_rowInt, Cond.instanceMethod yX7_rowInt, Cond.selects RX7 yX7_rowInt yX7_rowInt, Cond.code yX7_rowInt cX7_rowInt 3 (some .int), Cond.methodLink RX7 71 yX7_valueOf, Cond.instanceMethod yX7_valueOf]
def wsX8_step_r4 : List Cond := [Cond.selects RX7 yX7_valueOf yX7_valueOf, Cond.code yX7_valueOf cX7_valueOf 5 (some .int), Cond.methodLink RX7 75 yX7_put, Cond.instanceMethod yX7_put, Cond.selects RX7 yX7_put yX7_put, Cond.code yX7_put cX7_put 6 none, Cond.methodLink RX7 79 yX7_forgetStored, Cond.instanceMethod yX7_forgetStored, Cond.selects RX7 yX7_forgetStored yX7_forgetStored, Cond.code yX7_forgetStored cX7_forgetStored 2 none, Cond.constant RX7 93 (-7864321), Cond.methodLink RX7 82 yX7_lock, Cond.instanceMethod yX7_lock, Cond.selects RX7 yX7_lock yX7_lock, Cond.code yX7_lock cX7_lock 11 none]
def wsX8_step : List Cond := .code yX8_step cX8_step 2 (some .boolean) :: ((wsX8_step_r1 ++ (wsX8_step_r2 ++ (wsX8_step_r3 ++ wsX8_step_r4))) ++ wsX80 ++ wsX30 ++ wsX40 ++ wsX70)
def wsX8_undo_r1 : List Cond := [Cond.fieldLink RX8 34 "LitmusHall" "machine" "LLitmusHall$Machine;", Cond.fieldLink RX8 86 "LitmusHall$Machine" "stands" "Z", Cond.fieldLink RX8 27 "LitmusHall" "program" "LLitmusHall$Program;", Cond.methodLink RX8 122 yX3_takeBack, Cond.instanceMethod yX3_takeBack, Cond.selects RX3 yX3_takeBack yX3_takeBack, Cond.initialized RX3, Cond.code yX3_takeBack cX3_takeBack 3 (some .boolean), Cond.fieldLink RX3 30 "LitmusHall$Machine" "steps" "I", Cond.fieldLink RX3 12 "LitmusHall$Machine" "state" "LLitmusHall$State;", Cond.fieldLink RX3 18 "LitmusHall$Machine" "done" "[I", Cond.fieldLink RX3 26 "LitmusHall$Machine" "mode" "I", Cond.methodLink RX3 33 yX7_start, Cond.instanceMethod yX7_start, Cond.selects RX7 yX7_start yX7_start, Cond.initialized RX7, Cond.code yX7_start cX7_start 2 none, Cond.fieldLink RX7 11 "LitmusHall$State" "words" "[I", Cond.fieldLink RX7 27 "LitmusHall$Program" "cells" "[I", Cond.methodLink RX7 30 arraycopyName, Cond.native arraycopyName, Cond.static arraycopyName, Cond.initialized "java/lang/System", Cond.methodLink RX7 21 yJ7_fill_53178]
def wsX8_undo_r2 : List Cond := [Cond.static yJ7_fill_53178, Cond.initialized RJ7, Cond.code yJ7_fill_53178 cJ7_fill_53178 4 none, Cond.methodLink RX3 41 yX7_move, Cond.instanceMethod yX7_move, Cond.selects RX7 yX7_move yX7_move, Cond.code yX7_move cX7_move 8 none, Cond.fieldLink RX7 61 "LitmusHall$Program" "parts" "[I", Cond.methodLink RX7 57 yX7_letGo, Cond.instanceMethod yX7_letGo, Cond.selects RX7 yX7_letGo yX7_letGo, Cond.code yX7_letGo cX7_letGo 5 none, Cond.constant RX7 89 (-524161), Cond.methodLink RX7 86 yX7_rowCell, Cond.instanceMethod yX7_rowCell, Cond.selects RX7 yX7_rowCell yX7_rowCell, Cond.code yX7_rowCell cX7_rowCell 3 (some .int), Cond.methodLink RX7 43 yX7_nextOf, Cond.instanceMethod yX7_nextOf, Cond.selects RX7 yX7_nextOf yX7_nextOf, Cond.code yX7_nextOf cX7_nextOf 2 (some .int), Cond.methodLink RX7 64 yX4_partsAt, Cond.static yX4_partsAt, Cond.initialized RX4]
def wsX8_undo_r3 : List Cond := [Cond.code yX4_partsAt cX4_partsAt 2 (some .int), Cond.methodLink RX7 68 yX7_seen, Cond.instanceMethod yX7_seen, Cond.selects RX7 yX7_seen yX7_seen, Cond.code yX7_seen cX7_seen 4 (some .int), Cond.methodLink RX7 39 yX7_rowSize, Cond.instanceMethod yX7_rowSize, Cond.selects RX7 yX7_rowSize yX7_rowSize, Cond.code yX7_rowSize cX7_rowSize 2 (some .int), Cond.methodLink RX7 90 yX7_rowInt, Cond.instanceMethod yX7_rowInt, Cond.selects RX7 yX7_rowInt yX7_rowInt, Cond.code yX7_rowInt cX7_rowInt 3 (some .int), Cond.methodLink RX7 71 yX7_valueOf, Cond.instanceMethod yX7_valueOf, Cond.selects RX7 yX7_valueOf yX7_valueOf, Cond.code yX7_valueOf cX7_valueOf 5 (some .int), Cond.methodLink RX7 75 yX7_put, Cond.instanceMethod yX7_put, Cond.selects RX7 yX7_put yX7_put, Cond.code yX7_put cX7_put 6 none, Cond.methodLink RX7 79 yX7_forgetStored, Cond.instanceMethod yX7_forgetStored, Cond.selects RX7 yX7_forgetStored yX7_forgetStored]
def wsX8_undo_r4 : List Cond := [Cond.code yX7_forgetStored cX7_forgetStored 2 none, Cond.constant RX7 93 (-7864321), Cond.methodLink RX7 82 yX7_lock, Cond.instanceMethod yX7_lock, Cond.selects RX7 yX7_lock yX7_lock, Cond.code yX7_lock cX7_lock 11 none]
def wsX8_undo : List Cond := .code yX8_undo cX8_undo 1 (some .boolean) :: ((wsX8_undo_r1 ++ (wsX8_undo_r2 ++ (wsX8_undo_r3 ++ wsX8_undo_r4))) ++ wsX80 ++ wsX30 ++ wsX70 ++ wsX40)
def wsX8_register : List Cond := .code yX8_register cX8_register 3 (some .int) :: ([.fieldLink RX8 34 "LitmusHall" "machine" "LLitmusHall$Machine;", .fieldLink RX8 86 "LitmusHall$Machine" "stands" "Z", .fieldLink RX8 126 "LitmusHall$Machine" "state" "LLitmusHall$State;", .fieldLink RX8 130 "LitmusHall$State" "words" "[I", .methodLink RX8 96 yX8_hasCore, .instanceMethod yX8_hasCore, .selects RX8 yX8_hasCore yX8_hasCore, .initialized RX8, .code yX8_hasCore cX8_hasCore 2 (some .boolean), .fieldLink RX8 79 "LitmusHall" "loaded" "Z", .fieldLink RX8 27 "LitmusHall" "program" "LLitmusHall$Program;", .fieldLink RX8 108 "LitmusHall$Program" "cores" "I"] ++ wsX80 ++ wsX30 ++ wsX70 ++ wsX40)
def wsX8_memory : List Cond := .code yX8_memory cX8_memory 2 (some .int) :: ([.fieldLink RX8 34 "LitmusHall" "machine" "LLitmusHall$Machine;", .fieldLink RX8 86 "LitmusHall$Machine" "stands" "Z", .fieldLink RX8 126 "LitmusHall$Machine" "state" "LLitmusHall$State;", .fieldLink RX8 130 "LitmusHall$State" "words" "[I"] ++ wsX80 ++ wsX30 ++ wsX70)
def wsX8_next : List Cond := .code yX8_next cX8_next 2 (some .int) :: ([.fieldLink RX8 34 "LitmusHall" "machine" "LLitmusHall$Machine;", .fieldLink RX8 86 "LitmusHall$Machine" "stands" "Z", .fieldLink RX8 126 "LitmusHall$Machine" "state" "LLitmusHall$State;", .methodLink RX8 96 yX8_hasCore, .instanceMethod yX8_hasCore, .selects RX8 yX8_hasCore yX8_hasCore, .initialized RX8, .code yX8_hasCore cX8_hasCore 2 (some .boolean), .fieldLink RX8 79 "LitmusHall" "loaded" "Z", .fieldLink RX8 27 "LitmusHall" "program" "LLitmusHall$Program;", .fieldLink RX8 108 "LitmusHall$Program" "cores" "I", .methodLink RX8 135 yX7_nextOf, .instanceMethod yX7_nextOf, .selects RX7 yX7_nextOf yX7_nextOf, .initialized RX7, .code yX7_nextOf cX7_nextOf 2 (some .int), .fieldLink RX7 11 "LitmusHall$State" "words" "[I"] ++ wsX80 ++ wsX30 ++ wsX40 ++ wsX70)
def wsX8_store_r1 : List Cond := [Cond.fieldLink RX8 34 "LitmusHall" "machine" "LLitmusHall$Machine;", Cond.fieldLink RX8 86 "LitmusHall$Machine" "stands" "Z", Cond.fieldLink RX8 126 "LitmusHall$Machine" "state" "LLitmusHall$State;", Cond.methodLink RX8 96 yX8_hasCore, Cond.instanceMethod yX8_hasCore, Cond.selects RX8 yX8_hasCore yX8_hasCore, Cond.initialized RX8, Cond.code yX8_hasCore cX8_hasCore 2 (some .boolean), Cond.fieldLink RX8 79 "LitmusHall" "loaded" "Z", Cond.fieldLink RX8 27 "LitmusHall" "program" "LLitmusHall$Program;", Cond.fieldLink RX8 108 "LitmusHall$Program" "cores" "I", Cond.methodLink RX8 139 yX7_rowSize, Cond.instanceMethod yX7_rowSize, Cond.selects RX7 yX7_rowSize yX7_rowSize, Cond.initialized RX7, Cond.code yX7_rowSize cX7_rowSize 2 (some .int), Cond.fieldLink RX7 11 "LitmusHall$State" "words" "[I", Cond.methodLink RX8 142 yX7_rowCell, Cond.instanceMethod yX7_rowCell, Cond.selects RX7 yX7_rowCell yX7_rowCell, Cond.code yX7_rowCell cX7_rowCell 3 (some .int), Cond.methodLink RX8 146 yX7_rowInt, Cond.instanceMethod yX7_rowInt, Cond.selects RX7 yX7_rowInt yX7_rowInt]
def wsX8_store_r2 : List Cond := [Cond.code yX7_rowInt cX7_rowInt 3 (some .int)]
def wsX8_store : List Cond := .code yX8_store cX8_store 4 (some .int) :: ((wsX8_store_r1 ++ wsX8_store_r2) ++ wsX80 ++ wsX30 ++ wsX40 ++ wsX70)
def wsX8_explorerAtHand_r1 : List Cond := [Cond.fieldLink RX8 227 "LitmusHall" "explorer" "LLitmusHall$Explorer;", Cond.classLink RX8 219 RX1, Cond.instantiable RX1 10, Cond.initialized RX1, Cond.instanceMethod yX1_init, Cond.code yX1_init cX1_init 1 none, Cond.methodLink RX1 7 objectInit, Cond.instanceMethod objectInit, Cond.code objectInit ⟨#[0xb1]⟩ 1 none, Cond.arrayClass .int, Cond.fieldLink RX1 13 "LitmusHall$Explorer" "ends" "[I", Cond.fieldLink RX1 17 "LitmusHall$Explorer" "path" "[I", Cond.classLink RX1 3 RX7, Cond.instantiable RX7 1, Cond.initialized RX7, Cond.fieldLink RX1 21 "LitmusHall$Explorer" "state" "LLitmusHall$State;", Cond.fieldLink RX1 25 "LitmusHall$Explorer" "moved" "LLitmusHall$State;", Cond.fieldLink RX1 28 "LitmusHall$Explorer" "width" "I", Cond.fieldLink RX1 32 "LitmusHall$Explorer" "rows" "[I", Cond.fieldLink RX1 35 "LitmusHall$Explorer" "slots" "[I", Cond.fieldLink RX1 38 "LitmusHall$Explorer" "came" "[I", Cond.instanceMethod yX7_init, Cond.code yX7_init cX7_init 1 none, Cond.methodLink RX7 5 objectInit]
def wsX8_explorerAtHand_r2 : List Cond := [Cond.fieldLink RX7 11 "LitmusHall$State" "words" "[I"]
def wsX8_explorerAtHand : List Cond := .code yX8_explorerAtHand cX8_explorerAtHand 1 (some (.object "LitmusHall$Explorer")) :: ((wsX8_explorerAtHand_r1 ++ wsX8_explorerAtHand_r2) ++ wsX80 ++ wsX10 ++ wsX70)
def wsX8_found_r1 : List Cond := [Cond.fieldLink RX8 41 "LitmusHall" "withRows" "LLitmusHall$Findings;", Cond.fieldLink RX8 45 "LitmusHall" "withoutRows" "LLitmusHall$Findings;", Cond.fieldLink RX8 89 "LitmusHall$Findings" "known" "Z", Cond.fieldLink RX8 27 "LitmusHall" "program" "LLitmusHall$Program;", Cond.methodLink RX8 181 yX8_explorerAtHand, Cond.instanceMethod yX8_explorerAtHand, Cond.selects RX8 yX8_explorerAtHand yX8_explorerAtHand, Cond.initialized RX8, Cond.code yX8_explorerAtHand cX8_explorerAtHand 1 (some (.object "LitmusHall$Explorer")), Cond.fieldLink RX8 227 "LitmusHall" "explorer" "LLitmusHall$Explorer;", Cond.classLink RX8 219 RX1, Cond.instantiable RX1 10, Cond.initialized RX1, Cond.instanceMethod yX1_init, Cond.code yX1_init cX1_init 1 none, Cond.methodLink RX1 7 objectInit, Cond.instanceMethod objectInit, Cond.code objectInit ⟨#[0xb1]⟩ 1 none, Cond.arrayClass .int, Cond.fieldLink RX1 13 "LitmusHall$Explorer" "ends" "[I", Cond.fieldLink RX1 17 "LitmusHall$Explorer" "path" "[I", Cond.classLink RX1 3 RX7, Cond.instantiable RX7 1, Cond.initialized RX7]
def wsX8_found_r2 : List Cond := [Cond.fieldLink RX1 21 "LitmusHall$Explorer" "state" "LLitmusHall$State;", Cond.fieldLink RX1 25 "LitmusHall$Explorer" "moved" "LLitmusHall$State;", Cond.fieldLink RX1 28 "LitmusHall$Explorer" "width" "I", Cond.fieldLink RX1 32 "LitmusHall$Explorer" "rows" "[I", Cond.fieldLink RX1 35 "LitmusHall$Explorer" "slots" "[I", Cond.fieldLink RX1 38 "LitmusHall$Explorer" "came" "[I", Cond.instanceMethod yX7_init, Cond.code yX7_init cX7_init 1 none, Cond.methodLink RX7 5 objectInit, Cond.fieldLink RX7 11 "LitmusHall$State" "words" "[I", Cond.methodLink RX8 218 yX1_explore, Cond.instanceMethod yX1_explore, Cond.selects RX1 yX1_explore yX1_explore, Cond.code yX1_explore cX1_explore 5 (some .boolean), Cond.fieldLink RX1 47 "LitmusHall$Explorer" "size" "I", Cond.fieldLink RX1 50 "LitmusHall$Explorer" "endSize" "I", Cond.fieldLink RX1 61 "LitmusHall$State" "words" "[I", Cond.methodLink RX1 83 arraycopyName, Cond.native arraycopyName, Cond.static arraycopyName, Cond.initialized "java/lang/System", Cond.methodLink RX1 41 yJ7_fill_53178, Cond.static yJ7_fill_53178, Cond.initialized RJ7]
def wsX8_found_r3 : List Cond := [Cond.code yJ7_fill_53178 cJ7_fill_53178 4 none, Cond.methodLink RX1 53 yX7_widthOf, Cond.static yX7_widthOf, Cond.code yX7_widthOf cX7_widthOf 2 (some .int), Cond.fieldLink RX7 15 "LitmusHall$Program" "cores" "I", Cond.methodLink RX1 57 yX7_start, Cond.instanceMethod yX7_start, Cond.selects RX7 yX7_start yX7_start, Cond.code yX7_start cX7_start 2 none, Cond.fieldLink RX7 27 "LitmusHall$Program" "cells" "[I", Cond.methodLink RX7 30 arraycopyName, Cond.methodLink RX7 21 yJ7_fill_53178, Cond.methodLink RX1 64 yX1_keep, Cond.instanceMethod yX1_keep, Cond.selects RX1 yX1_keep yX1_keep, Cond.code yX1_keep cX1_keep 7 (some .boolean), Cond.methodLink RX1 93 yX1_hashOf, Cond.instanceMethod yX1_hashOf, Cond.selects RX1 yX1_hashOf yX1_hashOf, Cond.code yX1_hashOf cX1_hashOf 4 (some .int), Cond.constant RX1 105 (-2048144789), Cond.methodLink RX1 97 yX1_add, Cond.instanceMethod yX1_add, Cond.selects RX1 yX1_add yX1_add]
def wsX8_found_r4 : List Cond := [Cond.code yX1_add cX1_add 5 (some .boolean), Cond.constant RX1 106 (102000), Cond.methodLink RX1 107 Lib.Math.min.name, Cond.static Lib.Math.min.name, Cond.initialized "java/lang/Math", Cond.code Lib.Math.min.name Lib.Math.min.code 2 (some .int), Cond.methodLink RX1 113 yJ7_copyOf_59c91, Cond.static yJ7_copyOf_59c91, Cond.code yJ7_copyOf_59c91 cJ7_copyOf_59c91 3 (some (.array .int)), Cond.methodLink RJ7 316 ⟨"[I", "clone", "()Ljava/lang/Object;"⟩, Cond.sameMethod "[I" "java/lang/Object" "clone" "()Ljava/lang/Object;", Cond.native ⟨"java/lang/Object", "clone", "()Ljava/lang/Object;"⟩, Cond.instanceMethod ⟨"java/lang/Object", "clone", "()Ljava/lang/Object;"⟩, Cond.selects "[I" ⟨"[I", "clone", "()Ljava/lang/Object;"⟩ ⟨"java/lang/Object", "clone", "()Ljava/lang/Object;"⟩, Cond.classLink RJ7 317 "[I", Cond.methodLink RJ7 304 Lib.Math.min.name, Cond.methodLink RJ7 150 arraycopyName, Cond.methodLink RX1 101 yX1_isSame, Cond.instanceMethod yX1_isSame, Cond.selects RX1 yX1_isSame yX1_isSame, Cond.code yX1_isSame cX1_isSame 5 (some .boolean), Cond.methodLink RX1 68 yX1_fetch, Cond.instanceMethod yX1_fetch, Cond.selects RX1 yX1_fetch yX1_fetch]
def wsX8_found_r5 : List Cond := [Cond.code yX1_fetch cX1_fetch 2 none, Cond.methodLink RX1 72 yX7_hasEnded, Cond.instanceMethod yX7_hasEnded, Cond.selects RX7 yX7_hasEnded yX7_hasEnded, Cond.code yX7_hasEnded cX7_hasEnded 3 (some .boolean), Cond.fieldLink RX7 36 "LitmusHall$Program" "lengths" "[I", Cond.methodLink RX1 76 yX1_addEnd, Cond.instanceMethod yX1_addEnd, Cond.selects RX1 yX1_addEnd yX1_addEnd, Cond.code yX1_addEnd cX1_addEnd 6 none, Cond.methodLink RX1 117 yX1_isBefore, Cond.instanceMethod yX1_isBefore, Cond.selects RX1 yX1_isBefore yX1_isBefore, Cond.code yX1_isBefore cX1_isBefore 6 (some .boolean), Cond.methodLink RX1 79 yX7_can, Cond.instanceMethod yX7_can, Cond.selects RX7 yX7_can yX7_can, Cond.code yX7_can cX7_can 4 (some .boolean), Cond.methodLink RX7 39 yX7_rowSize, Cond.instanceMethod yX7_rowSize, Cond.selects RX7 yX7_rowSize yX7_rowSize, Cond.code yX7_rowSize cX7_rowSize 2 (some .int), Cond.methodLink RX7 43 yX7_nextOf, Cond.instanceMethod yX7_nextOf]
def wsX8_found_r6 : List Cond := [Cond.selects RX7 yX7_nextOf yX7_nextOf, Cond.code yX7_nextOf cX7_nextOf 2 (some .int), Cond.methodLink RX7 46 yX4_part, Cond.instanceMethod yX4_part, Cond.selects RX4 yX4_part yX4_part, Cond.initialized RX4, Cond.code yX4_part cX4_part 4 (some .int), Cond.fieldLink RX4 18 "LitmusHall$Program" "parts" "[I", Cond.methodLink RX4 31 yX4_partsAt, Cond.static yX4_partsAt, Cond.code yX4_partsAt cX4_partsAt 2 (some .int), Cond.methodLink RX7 50 yX7_waits, Cond.static yX7_waits, Cond.code yX7_waits cX7_waits 1 (some .boolean), Cond.methodLink RX7 54 yX7_isLocked, Cond.static yX7_isLocked, Cond.code yX7_isLocked cX7_isLocked 1 (some .boolean), Cond.methodLink RX1 89 yX7_move, Cond.instanceMethod yX7_move, Cond.selects RX7 yX7_move yX7_move, Cond.code yX7_move cX7_move 8 none, Cond.fieldLink RX7 61 "LitmusHall$Program" "parts" "[I", Cond.methodLink RX7 57 yX7_letGo, Cond.instanceMethod yX7_letGo]
def wsX8_found_r7 : List Cond := [Cond.selects RX7 yX7_letGo yX7_letGo, Cond.code yX7_letGo cX7_letGo 5 none, Cond.constant RX7 89 (-524161), Cond.methodLink RX7 86 yX7_rowCell, Cond.instanceMethod yX7_rowCell, Cond.selects RX7 yX7_rowCell yX7_rowCell, Cond.code yX7_rowCell cX7_rowCell 3 (some .int), Cond.methodLink RX7 64 yX4_partsAt, Cond.methodLink RX7 68 yX7_seen, Cond.instanceMethod yX7_seen, Cond.selects RX7 yX7_seen yX7_seen, Cond.code yX7_seen cX7_seen 4 (some .int), Cond.methodLink RX7 90 yX7_rowInt, Cond.instanceMethod yX7_rowInt, Cond.selects RX7 yX7_rowInt yX7_rowInt, Cond.code yX7_rowInt cX7_rowInt 3 (some .int), Cond.methodLink RX7 71 yX7_valueOf, Cond.instanceMethod yX7_valueOf, Cond.selects RX7 yX7_valueOf yX7_valueOf, Cond.code yX7_valueOf cX7_valueOf 5 (some .int), Cond.methodLink RX7 75 yX7_put, Cond.instanceMethod yX7_put, Cond.selects RX7 yX7_put yX7_put, Cond.code yX7_put cX7_put 6 none]
def wsX8_found_r8 : List Cond := [Cond.methodLink RX7 79 yX7_forgetStored, Cond.instanceMethod yX7_forgetStored, Cond.selects RX7 yX7_forgetStored yX7_forgetStored, Cond.code yX7_forgetStored cX7_forgetStored 2 none, Cond.constant RX7 93 (-7864321), Cond.methodLink RX7 82 yX7_lock, Cond.instanceMethod yX7_lock, Cond.selects RX7 yX7_lock yX7_lock, Cond.code yX7_lock cX7_lock 11 none, Cond.methodLink RX8 223 yX2_fill, Cond.instanceMethod yX2_fill, Cond.selects RX2 yX2_fill yX2_fill, Cond.initialized RX2, Cond.code yX2_fill cX2_fill 4 none, Cond.fieldLink RX2 15 "LitmusHall$Findings" "known" "Z", Cond.fieldLink RX2 19 "LitmusHall$Findings" "full" "Z", Cond.fieldLink RX2 22 "LitmusHall$Explorer" "size" "I", Cond.fieldLink RX2 28 "LitmusHall$Findings" "states" "I", Cond.fieldLink RX2 31 "LitmusHall$Explorer" "endSize" "I", Cond.fieldLink RX2 34 "LitmusHall$Findings" "size" "I", Cond.fieldLink RX2 11 "LitmusHall$Findings" "records" "[I", Cond.methodLink RX2 35 Lib.Math.min.name, Cond.methodLink RX2 41 yX2_record, Cond.instanceMethod yX2_record]
def wsX8_found_r9 : List Cond := [Cond.selects RX2 yX2_record yX2_record, Cond.code yX2_record cX2_record 8 none, Cond.fieldLink RX2 45 "LitmusHall$Explorer" "ends" "[I", Cond.fieldLink RX2 61 "LitmusHall$Explorer" "path" "[I", Cond.methodLink RX2 48 yX1_intOf, Cond.instanceMethod yX1_intOf, Cond.selects RX1 yX1_intOf yX1_intOf, Cond.code yX1_intOf cX1_intOf 3 (some .int), Cond.methodLink RX2 51 yJ7_fill_fda19, Cond.static yJ7_fill_fda19, Cond.code yJ7_fill_fda19 cJ7_fill_fda19 5 none, Cond.methodLink RJ7 13 yJ7_rangeCheck_23922, Cond.static yJ7_rangeCheck_23922, Cond.code yJ7_rangeCheck_23922 cJ7_rangeCheck_23922 3 none, Cond.methodLink RX2 57 yX1_pathTo, Cond.instanceMethod yX1_pathTo, Cond.selects RX1 yX1_pathTo yX1_pathTo, Cond.code yX1_pathTo cX1_pathTo 6 (some .int)]
def wsX8_found : List Cond := .code yX8_found cX8_found 4 (some (.object "LitmusHall$Findings")) :: ((wsX8_found_r1 ++ (wsX8_found_r2 ++ (wsX8_found_r3 ++ (wsX8_found_r4 ++ (wsX8_found_r5 ++ (wsX8_found_r6 ++ (wsX8_found_r7 ++ (wsX8_found_r8 ++ wsX8_found_r9)))))))) ++ wsX80 ++ wsX20 ++ wsX10 ++ wsX70 ++ wsX40)
def wsX8_outcomes_r1 : List Cond := [Cond.fieldLink RX8 79 "LitmusHall" "loaded" "Z", Cond.fieldLink RX8 153 "LitmusHall$Findings" "full" "Z", Cond.fieldLink RX8 156 "LitmusHall$Findings" "size" "I", Cond.methodLink RX8 111 yX8_isMode, Cond.static yX8_isMode, Cond.initialized RX8, Cond.code yX8_isMode cX8_isMode 1 (some .boolean), Cond.methodLink RX8 149 yX8_found, Cond.instanceMethod yX8_found, Cond.selects RX8 yX8_found yX8_found, Cond.code yX8_found cX8_found 4 (some (.object "LitmusHall$Findings")), Cond.fieldLink RX8 41 "LitmusHall" "withRows" "LLitmusHall$Findings;", Cond.fieldLink RX8 45 "LitmusHall" "withoutRows" "LLitmusHall$Findings;", Cond.fieldLink RX8 89 "LitmusHall$Findings" "known" "Z", Cond.fieldLink RX8 27 "LitmusHall" "program" "LLitmusHall$Program;", Cond.methodLink RX8 181 yX8_explorerAtHand, Cond.instanceMethod yX8_explorerAtHand, Cond.selects RX8 yX8_explorerAtHand yX8_explorerAtHand, Cond.code yX8_explorerAtHand cX8_explorerAtHand 1 (some (.object "LitmusHall$Explorer")), Cond.fieldLink RX8 227 "LitmusHall" "explorer" "LLitmusHall$Explorer;", Cond.classLink RX8 219 RX1, Cond.instantiable RX1 10, Cond.initialized RX1, Cond.instanceMethod yX1_init]
def wsX8_outcomes_r2 : List Cond := [Cond.code yX1_init cX1_init 1 none, Cond.methodLink RX1 7 objectInit, Cond.instanceMethod objectInit, Cond.code objectInit ⟨#[0xb1]⟩ 1 none, Cond.arrayClass .int, Cond.fieldLink RX1 13 "LitmusHall$Explorer" "ends" "[I", Cond.fieldLink RX1 17 "LitmusHall$Explorer" "path" "[I", Cond.classLink RX1 3 RX7, Cond.instantiable RX7 1, Cond.initialized RX7, Cond.fieldLink RX1 21 "LitmusHall$Explorer" "state" "LLitmusHall$State;", Cond.fieldLink RX1 25 "LitmusHall$Explorer" "moved" "LLitmusHall$State;", Cond.fieldLink RX1 28 "LitmusHall$Explorer" "width" "I", Cond.fieldLink RX1 32 "LitmusHall$Explorer" "rows" "[I", Cond.fieldLink RX1 35 "LitmusHall$Explorer" "slots" "[I", Cond.fieldLink RX1 38 "LitmusHall$Explorer" "came" "[I", Cond.instanceMethod yX7_init, Cond.code yX7_init cX7_init 1 none, Cond.methodLink RX7 5 objectInit, Cond.fieldLink RX7 11 "LitmusHall$State" "words" "[I", Cond.methodLink RX8 218 yX1_explore, Cond.instanceMethod yX1_explore, Cond.selects RX1 yX1_explore yX1_explore, Cond.code yX1_explore cX1_explore 5 (some .boolean)]
def wsX8_outcomes_r3 : List Cond := [Cond.fieldLink RX1 47 "LitmusHall$Explorer" "size" "I", Cond.fieldLink RX1 50 "LitmusHall$Explorer" "endSize" "I", Cond.fieldLink RX1 61 "LitmusHall$State" "words" "[I", Cond.methodLink RX1 83 arraycopyName, Cond.native arraycopyName, Cond.static arraycopyName, Cond.initialized "java/lang/System", Cond.methodLink RX1 41 yJ7_fill_53178, Cond.static yJ7_fill_53178, Cond.initialized RJ7, Cond.code yJ7_fill_53178 cJ7_fill_53178 4 none, Cond.methodLink RX1 53 yX7_widthOf, Cond.static yX7_widthOf, Cond.code yX7_widthOf cX7_widthOf 2 (some .int), Cond.fieldLink RX7 15 "LitmusHall$Program" "cores" "I", Cond.methodLink RX1 57 yX7_start, Cond.instanceMethod yX7_start, Cond.selects RX7 yX7_start yX7_start, Cond.code yX7_start cX7_start 2 none, Cond.fieldLink RX7 27 "LitmusHall$Program" "cells" "[I", Cond.methodLink RX7 30 arraycopyName, Cond.methodLink RX7 21 yJ7_fill_53178, Cond.methodLink RX1 64 yX1_keep, Cond.instanceMethod yX1_keep]
def wsX8_outcomes_r4 : List Cond := [Cond.selects RX1 yX1_keep yX1_keep, Cond.code yX1_keep cX1_keep 7 (some .boolean), Cond.methodLink RX1 93 yX1_hashOf, Cond.instanceMethod yX1_hashOf, Cond.selects RX1 yX1_hashOf yX1_hashOf, Cond.code yX1_hashOf cX1_hashOf 4 (some .int), Cond.constant RX1 105 (-2048144789), Cond.methodLink RX1 97 yX1_add, Cond.instanceMethod yX1_add, Cond.selects RX1 yX1_add yX1_add, Cond.code yX1_add cX1_add 5 (some .boolean), Cond.constant RX1 106 (102000), Cond.methodLink RX1 107 Lib.Math.min.name, Cond.static Lib.Math.min.name, Cond.initialized "java/lang/Math", Cond.code Lib.Math.min.name Lib.Math.min.code 2 (some .int), Cond.methodLink RX1 113 yJ7_copyOf_59c91, Cond.static yJ7_copyOf_59c91, Cond.code yJ7_copyOf_59c91 cJ7_copyOf_59c91 3 (some (.array .int)), Cond.methodLink RJ7 316 ⟨"[I", "clone", "()Ljava/lang/Object;"⟩, Cond.sameMethod "[I" "java/lang/Object" "clone" "()Ljava/lang/Object;", Cond.native ⟨"java/lang/Object", "clone", "()Ljava/lang/Object;"⟩, Cond.instanceMethod ⟨"java/lang/Object", "clone", "()Ljava/lang/Object;"⟩, Cond.selects "[I" ⟨"[I", "clone", "()Ljava/lang/Object;"⟩ ⟨"java/lang/Object", "clone", "()Ljava/lang/Object;"⟩]
def wsX8_outcomes_r5 : List Cond := [Cond.classLink RJ7 317 "[I", Cond.methodLink RJ7 304 Lib.Math.min.name, Cond.methodLink RJ7 150 arraycopyName, Cond.methodLink RX1 101 yX1_isSame, Cond.instanceMethod yX1_isSame, Cond.selects RX1 yX1_isSame yX1_isSame, Cond.code yX1_isSame cX1_isSame 5 (some .boolean), Cond.methodLink RX1 68 yX1_fetch, Cond.instanceMethod yX1_fetch, Cond.selects RX1 yX1_fetch yX1_fetch, Cond.code yX1_fetch cX1_fetch 2 none, Cond.methodLink RX1 72 yX7_hasEnded, Cond.instanceMethod yX7_hasEnded, Cond.selects RX7 yX7_hasEnded yX7_hasEnded, Cond.code yX7_hasEnded cX7_hasEnded 3 (some .boolean), Cond.fieldLink RX7 36 "LitmusHall$Program" "lengths" "[I", Cond.methodLink RX1 76 yX1_addEnd, Cond.instanceMethod yX1_addEnd, Cond.selects RX1 yX1_addEnd yX1_addEnd, Cond.code yX1_addEnd cX1_addEnd 6 none, Cond.methodLink RX1 117 yX1_isBefore, Cond.instanceMethod yX1_isBefore, Cond.selects RX1 yX1_isBefore yX1_isBefore, Cond.code yX1_isBefore cX1_isBefore 6 (some .boolean)]
def wsX8_outcomes_r6 : List Cond := [Cond.methodLink RX1 79 yX7_can, Cond.instanceMethod yX7_can, Cond.selects RX7 yX7_can yX7_can, Cond.code yX7_can cX7_can 4 (some .boolean), Cond.methodLink RX7 39 yX7_rowSize, Cond.instanceMethod yX7_rowSize, Cond.selects RX7 yX7_rowSize yX7_rowSize, Cond.code yX7_rowSize cX7_rowSize 2 (some .int), Cond.methodLink RX7 43 yX7_nextOf, Cond.instanceMethod yX7_nextOf, Cond.selects RX7 yX7_nextOf yX7_nextOf, Cond.code yX7_nextOf cX7_nextOf 2 (some .int), Cond.methodLink RX7 46 yX4_part, Cond.instanceMethod yX4_part, Cond.selects RX4 yX4_part yX4_part, Cond.initialized RX4, Cond.code yX4_part cX4_part 4 (some .int), Cond.fieldLink RX4 18 "LitmusHall$Program" "parts" "[I", Cond.methodLink RX4 31 yX4_partsAt, Cond.static yX4_partsAt, Cond.code yX4_partsAt cX4_partsAt 2 (some .int), Cond.methodLink RX7 50 yX7_waits, Cond.static yX7_waits, Cond.code yX7_waits cX7_waits 1 (some .boolean)]
def wsX8_outcomes_r7 : List Cond := [Cond.methodLink RX7 54 yX7_isLocked, Cond.static yX7_isLocked, Cond.code yX7_isLocked cX7_isLocked 1 (some .boolean), Cond.methodLink RX1 89 yX7_move, Cond.instanceMethod yX7_move, Cond.selects RX7 yX7_move yX7_move, Cond.code yX7_move cX7_move 8 none, Cond.fieldLink RX7 61 "LitmusHall$Program" "parts" "[I", Cond.methodLink RX7 57 yX7_letGo, Cond.instanceMethod yX7_letGo, Cond.selects RX7 yX7_letGo yX7_letGo, Cond.code yX7_letGo cX7_letGo 5 none, Cond.constant RX7 89 (-524161), Cond.methodLink RX7 86 yX7_rowCell, Cond.instanceMethod yX7_rowCell, Cond.selects RX7 yX7_rowCell yX7_rowCell, Cond.code yX7_rowCell cX7_rowCell 3 (some .int), Cond.methodLink RX7 64 yX4_partsAt, Cond.methodLink RX7 68 yX7_seen, Cond.instanceMethod yX7_seen, Cond.selects RX7 yX7_seen yX7_seen, Cond.code yX7_seen cX7_seen 4 (some .int), Cond.methodLink RX7 90 yX7_rowInt, Cond.instanceMethod yX7_rowInt]
def wsX8_outcomes_r8 : List Cond := [Cond.selects RX7 yX7_rowInt yX7_rowInt, Cond.code yX7_rowInt cX7_rowInt 3 (some .int), Cond.methodLink RX7 71 yX7_valueOf, Cond.instanceMethod yX7_valueOf, Cond.selects RX7 yX7_valueOf yX7_valueOf, Cond.code yX7_valueOf cX7_valueOf 5 (some .int), Cond.methodLink RX7 75 yX7_put, Cond.instanceMethod yX7_put, Cond.selects RX7 yX7_put yX7_put, Cond.code yX7_put cX7_put 6 none, Cond.methodLink RX7 79 yX7_forgetStored, Cond.instanceMethod yX7_forgetStored, Cond.selects RX7 yX7_forgetStored yX7_forgetStored, Cond.code yX7_forgetStored cX7_forgetStored 2 none, Cond.constant RX7 93 (-7864321), Cond.methodLink RX7 82 yX7_lock, Cond.instanceMethod yX7_lock, Cond.selects RX7 yX7_lock yX7_lock, Cond.code yX7_lock cX7_lock 11 none, Cond.methodLink RX8 223 yX2_fill, Cond.instanceMethod yX2_fill, Cond.selects RX2 yX2_fill yX2_fill, Cond.initialized RX2, Cond.code yX2_fill cX2_fill 4 none]
def wsX8_outcomes_r9 : List Cond := [Cond.fieldLink RX2 15 "LitmusHall$Findings" "known" "Z", Cond.fieldLink RX2 19 "LitmusHall$Findings" "full" "Z", Cond.fieldLink RX2 22 "LitmusHall$Explorer" "size" "I", Cond.fieldLink RX2 28 "LitmusHall$Findings" "states" "I", Cond.fieldLink RX2 31 "LitmusHall$Explorer" "endSize" "I", Cond.fieldLink RX2 34 "LitmusHall$Findings" "size" "I", Cond.fieldLink RX2 11 "LitmusHall$Findings" "records" "[I", Cond.methodLink RX2 35 Lib.Math.min.name, Cond.methodLink RX2 41 yX2_record, Cond.instanceMethod yX2_record, Cond.selects RX2 yX2_record yX2_record, Cond.code yX2_record cX2_record 8 none, Cond.fieldLink RX2 45 "LitmusHall$Explorer" "ends" "[I", Cond.fieldLink RX2 61 "LitmusHall$Explorer" "path" "[I", Cond.methodLink RX2 48 yX1_intOf, Cond.instanceMethod yX1_intOf, Cond.selects RX1 yX1_intOf yX1_intOf, Cond.code yX1_intOf cX1_intOf 3 (some .int), Cond.methodLink RX2 51 yJ7_fill_fda19, Cond.static yJ7_fill_fda19, Cond.code yJ7_fill_fda19 cJ7_fill_fda19 5 none, Cond.methodLink RJ7 13 yJ7_rangeCheck_23922, Cond.static yJ7_rangeCheck_23922, Cond.code yJ7_rangeCheck_23922 cJ7_rangeCheck_23922 3 none]
def wsX8_outcomes_r10 : List Cond := [Cond.methodLink RX2 57 yX1_pathTo, Cond.instanceMethod yX1_pathTo, Cond.selects RX1 yX1_pathTo yX1_pathTo, Cond.code yX1_pathTo cX1_pathTo 6 (some .int)]
def wsX8_outcomes : List Cond := .code yX8_outcomes cX8_outcomes 3 (some .int) :: ((wsX8_outcomes_r1 ++ (wsX8_outcomes_r2 ++ (wsX8_outcomes_r3 ++ (wsX8_outcomes_r4 ++ (wsX8_outcomes_r5 ++ (wsX8_outcomes_r6 ++ (wsX8_outcomes_r7 ++ (wsX8_outcomes_r8 ++ (wsX8_outcomes_r9 ++ wsX8_outcomes_r10))))))))) ++ wsX80 ++ wsX20 ++ wsX10 ++ wsX70 ++ wsX40)
def wsX8_outcome_r1 : List Cond := [Cond.fieldLink RX8 79 "LitmusHall" "loaded" "Z", Cond.methodLink RX8 111 yX8_isMode, Cond.static yX8_isMode, Cond.initialized RX8, Cond.code yX8_isMode cX8_isMode 1 (some .boolean), Cond.methodLink RX8 149 yX8_found, Cond.instanceMethod yX8_found, Cond.selects RX8 yX8_found yX8_found, Cond.code yX8_found cX8_found 4 (some (.object "LitmusHall$Findings")), Cond.fieldLink RX8 41 "LitmusHall" "withRows" "LLitmusHall$Findings;", Cond.fieldLink RX8 45 "LitmusHall" "withoutRows" "LLitmusHall$Findings;", Cond.fieldLink RX8 89 "LitmusHall$Findings" "known" "Z", Cond.fieldLink RX8 27 "LitmusHall" "program" "LLitmusHall$Program;", Cond.methodLink RX8 181 yX8_explorerAtHand, Cond.instanceMethod yX8_explorerAtHand, Cond.selects RX8 yX8_explorerAtHand yX8_explorerAtHand, Cond.code yX8_explorerAtHand cX8_explorerAtHand 1 (some (.object "LitmusHall$Explorer")), Cond.fieldLink RX8 227 "LitmusHall" "explorer" "LLitmusHall$Explorer;", Cond.classLink RX8 219 RX1, Cond.instantiable RX1 10, Cond.initialized RX1, Cond.instanceMethod yX1_init, Cond.code yX1_init cX1_init 1 none, Cond.methodLink RX1 7 objectInit]
def wsX8_outcome_r2 : List Cond := [Cond.instanceMethod objectInit, Cond.code objectInit ⟨#[0xb1]⟩ 1 none, Cond.arrayClass .int, Cond.fieldLink RX1 13 "LitmusHall$Explorer" "ends" "[I", Cond.fieldLink RX1 17 "LitmusHall$Explorer" "path" "[I", Cond.classLink RX1 3 RX7, Cond.instantiable RX7 1, Cond.initialized RX7, Cond.fieldLink RX1 21 "LitmusHall$Explorer" "state" "LLitmusHall$State;", Cond.fieldLink RX1 25 "LitmusHall$Explorer" "moved" "LLitmusHall$State;", Cond.fieldLink RX1 28 "LitmusHall$Explorer" "width" "I", Cond.fieldLink RX1 32 "LitmusHall$Explorer" "rows" "[I", Cond.fieldLink RX1 35 "LitmusHall$Explorer" "slots" "[I", Cond.fieldLink RX1 38 "LitmusHall$Explorer" "came" "[I", Cond.instanceMethod yX7_init, Cond.code yX7_init cX7_init 1 none, Cond.methodLink RX7 5 objectInit, Cond.fieldLink RX7 11 "LitmusHall$State" "words" "[I", Cond.methodLink RX8 218 yX1_explore, Cond.instanceMethod yX1_explore, Cond.selects RX1 yX1_explore yX1_explore, Cond.code yX1_explore cX1_explore 5 (some .boolean), Cond.fieldLink RX1 47 "LitmusHall$Explorer" "size" "I", Cond.fieldLink RX1 50 "LitmusHall$Explorer" "endSize" "I"]
def wsX8_outcome_r3 : List Cond := [Cond.fieldLink RX1 61 "LitmusHall$State" "words" "[I", Cond.methodLink RX1 83 arraycopyName, Cond.native arraycopyName, Cond.static arraycopyName, Cond.initialized "java/lang/System", Cond.methodLink RX1 41 yJ7_fill_53178, Cond.static yJ7_fill_53178, Cond.initialized RJ7, Cond.code yJ7_fill_53178 cJ7_fill_53178 4 none, Cond.methodLink RX1 53 yX7_widthOf, Cond.static yX7_widthOf, Cond.code yX7_widthOf cX7_widthOf 2 (some .int), Cond.fieldLink RX7 15 "LitmusHall$Program" "cores" "I", Cond.methodLink RX1 57 yX7_start, Cond.instanceMethod yX7_start, Cond.selects RX7 yX7_start yX7_start, Cond.code yX7_start cX7_start 2 none, Cond.fieldLink RX7 27 "LitmusHall$Program" "cells" "[I", Cond.methodLink RX7 30 arraycopyName, Cond.methodLink RX7 21 yJ7_fill_53178, Cond.methodLink RX1 64 yX1_keep, Cond.instanceMethod yX1_keep, Cond.selects RX1 yX1_keep yX1_keep, Cond.code yX1_keep cX1_keep 7 (some .boolean)]
def wsX8_outcome_r4 : List Cond := [Cond.methodLink RX1 93 yX1_hashOf, Cond.instanceMethod yX1_hashOf, Cond.selects RX1 yX1_hashOf yX1_hashOf, Cond.code yX1_hashOf cX1_hashOf 4 (some .int), Cond.constant RX1 105 (-2048144789), Cond.methodLink RX1 97 yX1_add, Cond.instanceMethod yX1_add, Cond.selects RX1 yX1_add yX1_add, Cond.code yX1_add cX1_add 5 (some .boolean), Cond.constant RX1 106 (102000), Cond.methodLink RX1 107 Lib.Math.min.name, Cond.static Lib.Math.min.name, Cond.initialized "java/lang/Math", Cond.code Lib.Math.min.name Lib.Math.min.code 2 (some .int), Cond.methodLink RX1 113 yJ7_copyOf_59c91, Cond.static yJ7_copyOf_59c91, Cond.code yJ7_copyOf_59c91 cJ7_copyOf_59c91 3 (some (.array .int)), Cond.methodLink RJ7 316 ⟨"[I", "clone", "()Ljava/lang/Object;"⟩, Cond.sameMethod "[I" "java/lang/Object" "clone" "()Ljava/lang/Object;", Cond.native ⟨"java/lang/Object", "clone", "()Ljava/lang/Object;"⟩, Cond.instanceMethod ⟨"java/lang/Object", "clone", "()Ljava/lang/Object;"⟩, Cond.selects "[I" ⟨"[I", "clone", "()Ljava/lang/Object;"⟩ ⟨"java/lang/Object", "clone", "()Ljava/lang/Object;"⟩, Cond.classLink RJ7 317 "[I", Cond.methodLink RJ7 304 Lib.Math.min.name]
def wsX8_outcome_r5 : List Cond := [Cond.methodLink RJ7 150 arraycopyName, Cond.methodLink RX1 101 yX1_isSame, Cond.instanceMethod yX1_isSame, Cond.selects RX1 yX1_isSame yX1_isSame, Cond.code yX1_isSame cX1_isSame 5 (some .boolean), Cond.methodLink RX1 68 yX1_fetch, Cond.instanceMethod yX1_fetch, Cond.selects RX1 yX1_fetch yX1_fetch, Cond.code yX1_fetch cX1_fetch 2 none, Cond.methodLink RX1 72 yX7_hasEnded, Cond.instanceMethod yX7_hasEnded, Cond.selects RX7 yX7_hasEnded yX7_hasEnded, Cond.code yX7_hasEnded cX7_hasEnded 3 (some .boolean), Cond.fieldLink RX7 36 "LitmusHall$Program" "lengths" "[I", Cond.methodLink RX1 76 yX1_addEnd, Cond.instanceMethod yX1_addEnd, Cond.selects RX1 yX1_addEnd yX1_addEnd, Cond.code yX1_addEnd cX1_addEnd 6 none, Cond.methodLink RX1 117 yX1_isBefore, Cond.instanceMethod yX1_isBefore, Cond.selects RX1 yX1_isBefore yX1_isBefore, Cond.code yX1_isBefore cX1_isBefore 6 (some .boolean), Cond.methodLink RX1 79 yX7_can, Cond.instanceMethod yX7_can]
def wsX8_outcome_r6 : List Cond := [Cond.selects RX7 yX7_can yX7_can, Cond.code yX7_can cX7_can 4 (some .boolean), Cond.methodLink RX7 39 yX7_rowSize, Cond.instanceMethod yX7_rowSize, Cond.selects RX7 yX7_rowSize yX7_rowSize, Cond.code yX7_rowSize cX7_rowSize 2 (some .int), Cond.methodLink RX7 43 yX7_nextOf, Cond.instanceMethod yX7_nextOf, Cond.selects RX7 yX7_nextOf yX7_nextOf, Cond.code yX7_nextOf cX7_nextOf 2 (some .int), Cond.methodLink RX7 46 yX4_part, Cond.instanceMethod yX4_part, Cond.selects RX4 yX4_part yX4_part, Cond.initialized RX4, Cond.code yX4_part cX4_part 4 (some .int), Cond.fieldLink RX4 18 "LitmusHall$Program" "parts" "[I", Cond.methodLink RX4 31 yX4_partsAt, Cond.static yX4_partsAt, Cond.code yX4_partsAt cX4_partsAt 2 (some .int), Cond.methodLink RX7 50 yX7_waits, Cond.static yX7_waits, Cond.code yX7_waits cX7_waits 1 (some .boolean), Cond.methodLink RX7 54 yX7_isLocked, Cond.static yX7_isLocked]
def wsX8_outcome_r7 : List Cond := [Cond.code yX7_isLocked cX7_isLocked 1 (some .boolean), Cond.methodLink RX1 89 yX7_move, Cond.instanceMethod yX7_move, Cond.selects RX7 yX7_move yX7_move, Cond.code yX7_move cX7_move 8 none, Cond.fieldLink RX7 61 "LitmusHall$Program" "parts" "[I", Cond.methodLink RX7 57 yX7_letGo, Cond.instanceMethod yX7_letGo, Cond.selects RX7 yX7_letGo yX7_letGo, Cond.code yX7_letGo cX7_letGo 5 none, Cond.constant RX7 89 (-524161), Cond.methodLink RX7 86 yX7_rowCell, Cond.instanceMethod yX7_rowCell, Cond.selects RX7 yX7_rowCell yX7_rowCell, Cond.code yX7_rowCell cX7_rowCell 3 (some .int), Cond.methodLink RX7 64 yX4_partsAt, Cond.methodLink RX7 68 yX7_seen, Cond.instanceMethod yX7_seen, Cond.selects RX7 yX7_seen yX7_seen, Cond.code yX7_seen cX7_seen 4 (some .int), Cond.methodLink RX7 90 yX7_rowInt, Cond.instanceMethod yX7_rowInt, Cond.selects RX7 yX7_rowInt yX7_rowInt, Cond.code yX7_rowInt cX7_rowInt 3 (some .int)]
def wsX8_outcome_r8 : List Cond := [Cond.methodLink RX7 71 yX7_valueOf, Cond.instanceMethod yX7_valueOf, Cond.selects RX7 yX7_valueOf yX7_valueOf, Cond.code yX7_valueOf cX7_valueOf 5 (some .int), Cond.methodLink RX7 75 yX7_put, Cond.instanceMethod yX7_put, Cond.selects RX7 yX7_put yX7_put, Cond.code yX7_put cX7_put 6 none, Cond.methodLink RX7 79 yX7_forgetStored, Cond.instanceMethod yX7_forgetStored, Cond.selects RX7 yX7_forgetStored yX7_forgetStored, Cond.code yX7_forgetStored cX7_forgetStored 2 none, Cond.constant RX7 93 (-7864321), Cond.methodLink RX7 82 yX7_lock, Cond.instanceMethod yX7_lock, Cond.selects RX7 yX7_lock yX7_lock, Cond.code yX7_lock cX7_lock 11 none, Cond.methodLink RX8 223 yX2_fill, Cond.instanceMethod yX2_fill, Cond.selects RX2 yX2_fill yX2_fill, Cond.initialized RX2, Cond.code yX2_fill cX2_fill 4 none, Cond.fieldLink RX2 15 "LitmusHall$Findings" "known" "Z", Cond.fieldLink RX2 19 "LitmusHall$Findings" "full" "Z"]
def wsX8_outcome_r9 : List Cond := [Cond.fieldLink RX2 22 "LitmusHall$Explorer" "size" "I", Cond.fieldLink RX2 28 "LitmusHall$Findings" "states" "I", Cond.fieldLink RX2 31 "LitmusHall$Explorer" "endSize" "I", Cond.fieldLink RX2 34 "LitmusHall$Findings" "size" "I", Cond.fieldLink RX2 11 "LitmusHall$Findings" "records" "[I", Cond.methodLink RX2 35 Lib.Math.min.name, Cond.methodLink RX2 41 yX2_record, Cond.instanceMethod yX2_record, Cond.selects RX2 yX2_record yX2_record, Cond.code yX2_record cX2_record 8 none, Cond.fieldLink RX2 45 "LitmusHall$Explorer" "ends" "[I", Cond.fieldLink RX2 61 "LitmusHall$Explorer" "path" "[I", Cond.methodLink RX2 48 yX1_intOf, Cond.instanceMethod yX1_intOf, Cond.selects RX1 yX1_intOf yX1_intOf, Cond.code yX1_intOf cX1_intOf 3 (some .int), Cond.methodLink RX2 51 yJ7_fill_fda19, Cond.static yJ7_fill_fda19, Cond.code yJ7_fill_fda19 cJ7_fill_fda19 5 none, Cond.methodLink RJ7 13 yJ7_rangeCheck_23922, Cond.static yJ7_rangeCheck_23922, Cond.code yJ7_rangeCheck_23922 cJ7_rangeCheck_23922 3 none, Cond.methodLink RX2 57 yX1_pathTo, Cond.instanceMethod yX1_pathTo]
def wsX8_outcome_r10 : List Cond := [Cond.selects RX1 yX1_pathTo yX1_pathTo, Cond.code yX1_pathTo cX1_pathTo 6 (some .int), Cond.methodLink RX8 159 yX2_has, Cond.instanceMethod yX2_has, Cond.selects RX2 yX2_has yX2_has, Cond.code yX2_has cX2_has 2 (some .boolean), Cond.methodLink RX8 162 yX2_intOf, Cond.instanceMethod yX2_intOf, Cond.selects RX2 yX2_intOf yX2_intOf, Cond.code yX2_intOf cX2_intOf 3 (some .int)]
def wsX8_outcome : List Cond := .code yX8_outcome cX8_outcome 5 (some .int) :: ((wsX8_outcome_r1 ++ (wsX8_outcome_r2 ++ (wsX8_outcome_r3 ++ (wsX8_outcome_r4 ++ (wsX8_outcome_r5 ++ (wsX8_outcome_r6 ++ (wsX8_outcome_r7 ++ (wsX8_outcome_r8 ++ (wsX8_outcome_r9 ++ wsX8_outcome_r10))))))))) ++ wsX80 ++ wsX20 ++ wsX10 ++ wsX70 ++ wsX40)
def wsX8_schedule_r1 : List Cond := [Cond.fieldLink RX8 79 "LitmusHall" "loaded" "Z", Cond.methodLink RX8 111 yX8_isMode, Cond.static yX8_isMode, Cond.initialized RX8, Cond.code yX8_isMode cX8_isMode 1 (some .boolean), Cond.methodLink RX8 149 yX8_found, Cond.instanceMethod yX8_found, Cond.selects RX8 yX8_found yX8_found, Cond.code yX8_found cX8_found 4 (some (.object "LitmusHall$Findings")), Cond.fieldLink RX8 41 "LitmusHall" "withRows" "LLitmusHall$Findings;", Cond.fieldLink RX8 45 "LitmusHall" "withoutRows" "LLitmusHall$Findings;", Cond.fieldLink RX8 89 "LitmusHall$Findings" "known" "Z", Cond.fieldLink RX8 27 "LitmusHall" "program" "LLitmusHall$Program;", Cond.methodLink RX8 181 yX8_explorerAtHand, Cond.instanceMethod yX8_explorerAtHand, Cond.selects RX8 yX8_explorerAtHand yX8_explorerAtHand, Cond.code yX8_explorerAtHand cX8_explorerAtHand 1 (some (.object "LitmusHall$Explorer")), Cond.fieldLink RX8 227 "LitmusHall" "explorer" "LLitmusHall$Explorer;", Cond.classLink RX8 219 RX1, Cond.instantiable RX1 10, Cond.initialized RX1, Cond.instanceMethod yX1_init, Cond.code yX1_init cX1_init 1 none, Cond.methodLink RX1 7 objectInit]
def wsX8_schedule_r2 : List Cond := [Cond.instanceMethod objectInit, Cond.code objectInit ⟨#[0xb1]⟩ 1 none, Cond.arrayClass .int, Cond.fieldLink RX1 13 "LitmusHall$Explorer" "ends" "[I", Cond.fieldLink RX1 17 "LitmusHall$Explorer" "path" "[I", Cond.classLink RX1 3 RX7, Cond.instantiable RX7 1, Cond.initialized RX7, Cond.fieldLink RX1 21 "LitmusHall$Explorer" "state" "LLitmusHall$State;", Cond.fieldLink RX1 25 "LitmusHall$Explorer" "moved" "LLitmusHall$State;", Cond.fieldLink RX1 28 "LitmusHall$Explorer" "width" "I", Cond.fieldLink RX1 32 "LitmusHall$Explorer" "rows" "[I", Cond.fieldLink RX1 35 "LitmusHall$Explorer" "slots" "[I", Cond.fieldLink RX1 38 "LitmusHall$Explorer" "came" "[I", Cond.instanceMethod yX7_init, Cond.code yX7_init cX7_init 1 none, Cond.methodLink RX7 5 objectInit, Cond.fieldLink RX7 11 "LitmusHall$State" "words" "[I", Cond.methodLink RX8 218 yX1_explore, Cond.instanceMethod yX1_explore, Cond.selects RX1 yX1_explore yX1_explore, Cond.code yX1_explore cX1_explore 5 (some .boolean), Cond.fieldLink RX1 47 "LitmusHall$Explorer" "size" "I", Cond.fieldLink RX1 50 "LitmusHall$Explorer" "endSize" "I"]
def wsX8_schedule_r3 : List Cond := [Cond.fieldLink RX1 61 "LitmusHall$State" "words" "[I", Cond.methodLink RX1 83 arraycopyName, Cond.native arraycopyName, Cond.static arraycopyName, Cond.initialized "java/lang/System", Cond.methodLink RX1 41 yJ7_fill_53178, Cond.static yJ7_fill_53178, Cond.initialized RJ7, Cond.code yJ7_fill_53178 cJ7_fill_53178 4 none, Cond.methodLink RX1 53 yX7_widthOf, Cond.static yX7_widthOf, Cond.code yX7_widthOf cX7_widthOf 2 (some .int), Cond.fieldLink RX7 15 "LitmusHall$Program" "cores" "I", Cond.methodLink RX1 57 yX7_start, Cond.instanceMethod yX7_start, Cond.selects RX7 yX7_start yX7_start, Cond.code yX7_start cX7_start 2 none, Cond.fieldLink RX7 27 "LitmusHall$Program" "cells" "[I", Cond.methodLink RX7 30 arraycopyName, Cond.methodLink RX7 21 yJ7_fill_53178, Cond.methodLink RX1 64 yX1_keep, Cond.instanceMethod yX1_keep, Cond.selects RX1 yX1_keep yX1_keep, Cond.code yX1_keep cX1_keep 7 (some .boolean)]
def wsX8_schedule_r4 : List Cond := [Cond.methodLink RX1 93 yX1_hashOf, Cond.instanceMethod yX1_hashOf, Cond.selects RX1 yX1_hashOf yX1_hashOf, Cond.code yX1_hashOf cX1_hashOf 4 (some .int), Cond.constant RX1 105 (-2048144789), Cond.methodLink RX1 97 yX1_add, Cond.instanceMethod yX1_add, Cond.selects RX1 yX1_add yX1_add, Cond.code yX1_add cX1_add 5 (some .boolean), Cond.constant RX1 106 (102000), Cond.methodLink RX1 107 Lib.Math.min.name, Cond.static Lib.Math.min.name, Cond.initialized "java/lang/Math", Cond.code Lib.Math.min.name Lib.Math.min.code 2 (some .int), Cond.methodLink RX1 113 yJ7_copyOf_59c91, Cond.static yJ7_copyOf_59c91, Cond.code yJ7_copyOf_59c91 cJ7_copyOf_59c91 3 (some (.array .int)), Cond.methodLink RJ7 316 ⟨"[I", "clone", "()Ljava/lang/Object;"⟩, Cond.sameMethod "[I" "java/lang/Object" "clone" "()Ljava/lang/Object;", Cond.native ⟨"java/lang/Object", "clone", "()Ljava/lang/Object;"⟩, Cond.instanceMethod ⟨"java/lang/Object", "clone", "()Ljava/lang/Object;"⟩, Cond.selects "[I" ⟨"[I", "clone", "()Ljava/lang/Object;"⟩ ⟨"java/lang/Object", "clone", "()Ljava/lang/Object;"⟩, Cond.classLink RJ7 317 "[I", Cond.methodLink RJ7 304 Lib.Math.min.name]
def wsX8_schedule_r5 : List Cond := [Cond.methodLink RJ7 150 arraycopyName, Cond.methodLink RX1 101 yX1_isSame, Cond.instanceMethod yX1_isSame, Cond.selects RX1 yX1_isSame yX1_isSame, Cond.code yX1_isSame cX1_isSame 5 (some .boolean), Cond.methodLink RX1 68 yX1_fetch, Cond.instanceMethod yX1_fetch, Cond.selects RX1 yX1_fetch yX1_fetch, Cond.code yX1_fetch cX1_fetch 2 none, Cond.methodLink RX1 72 yX7_hasEnded, Cond.instanceMethod yX7_hasEnded, Cond.selects RX7 yX7_hasEnded yX7_hasEnded, Cond.code yX7_hasEnded cX7_hasEnded 3 (some .boolean), Cond.fieldLink RX7 36 "LitmusHall$Program" "lengths" "[I", Cond.methodLink RX1 76 yX1_addEnd, Cond.instanceMethod yX1_addEnd, Cond.selects RX1 yX1_addEnd yX1_addEnd, Cond.code yX1_addEnd cX1_addEnd 6 none, Cond.methodLink RX1 117 yX1_isBefore, Cond.instanceMethod yX1_isBefore, Cond.selects RX1 yX1_isBefore yX1_isBefore, Cond.code yX1_isBefore cX1_isBefore 6 (some .boolean), Cond.methodLink RX1 79 yX7_can, Cond.instanceMethod yX7_can]
def wsX8_schedule_r6 : List Cond := [Cond.selects RX7 yX7_can yX7_can, Cond.code yX7_can cX7_can 4 (some .boolean), Cond.methodLink RX7 39 yX7_rowSize, Cond.instanceMethod yX7_rowSize, Cond.selects RX7 yX7_rowSize yX7_rowSize, Cond.code yX7_rowSize cX7_rowSize 2 (some .int), Cond.methodLink RX7 43 yX7_nextOf, Cond.instanceMethod yX7_nextOf, Cond.selects RX7 yX7_nextOf yX7_nextOf, Cond.code yX7_nextOf cX7_nextOf 2 (some .int), Cond.methodLink RX7 46 yX4_part, Cond.instanceMethod yX4_part, Cond.selects RX4 yX4_part yX4_part, Cond.initialized RX4, Cond.code yX4_part cX4_part 4 (some .int), Cond.fieldLink RX4 18 "LitmusHall$Program" "parts" "[I", Cond.methodLink RX4 31 yX4_partsAt, Cond.static yX4_partsAt, Cond.code yX4_partsAt cX4_partsAt 2 (some .int), Cond.methodLink RX7 50 yX7_waits, Cond.static yX7_waits, Cond.code yX7_waits cX7_waits 1 (some .boolean), Cond.methodLink RX7 54 yX7_isLocked, Cond.static yX7_isLocked]
def wsX8_schedule_r7 : List Cond := [Cond.code yX7_isLocked cX7_isLocked 1 (some .boolean), Cond.methodLink RX1 89 yX7_move, Cond.instanceMethod yX7_move, Cond.selects RX7 yX7_move yX7_move, Cond.code yX7_move cX7_move 8 none, Cond.fieldLink RX7 61 "LitmusHall$Program" "parts" "[I", Cond.methodLink RX7 57 yX7_letGo, Cond.instanceMethod yX7_letGo, Cond.selects RX7 yX7_letGo yX7_letGo, Cond.code yX7_letGo cX7_letGo 5 none, Cond.constant RX7 89 (-524161), Cond.methodLink RX7 86 yX7_rowCell, Cond.instanceMethod yX7_rowCell, Cond.selects RX7 yX7_rowCell yX7_rowCell, Cond.code yX7_rowCell cX7_rowCell 3 (some .int), Cond.methodLink RX7 64 yX4_partsAt, Cond.methodLink RX7 68 yX7_seen, Cond.instanceMethod yX7_seen, Cond.selects RX7 yX7_seen yX7_seen, Cond.code yX7_seen cX7_seen 4 (some .int), Cond.methodLink RX7 90 yX7_rowInt, Cond.instanceMethod yX7_rowInt, Cond.selects RX7 yX7_rowInt yX7_rowInt, Cond.code yX7_rowInt cX7_rowInt 3 (some .int)]
def wsX8_schedule_r8 : List Cond := [Cond.methodLink RX7 71 yX7_valueOf, Cond.instanceMethod yX7_valueOf, Cond.selects RX7 yX7_valueOf yX7_valueOf, Cond.code yX7_valueOf cX7_valueOf 5 (some .int), Cond.methodLink RX7 75 yX7_put, Cond.instanceMethod yX7_put, Cond.selects RX7 yX7_put yX7_put, Cond.code yX7_put cX7_put 6 none, Cond.methodLink RX7 79 yX7_forgetStored, Cond.instanceMethod yX7_forgetStored, Cond.selects RX7 yX7_forgetStored yX7_forgetStored, Cond.code yX7_forgetStored cX7_forgetStored 2 none, Cond.constant RX7 93 (-7864321), Cond.methodLink RX7 82 yX7_lock, Cond.instanceMethod yX7_lock, Cond.selects RX7 yX7_lock yX7_lock, Cond.code yX7_lock cX7_lock 11 none, Cond.methodLink RX8 223 yX2_fill, Cond.instanceMethod yX2_fill, Cond.selects RX2 yX2_fill yX2_fill, Cond.initialized RX2, Cond.code yX2_fill cX2_fill 4 none, Cond.fieldLink RX2 15 "LitmusHall$Findings" "known" "Z", Cond.fieldLink RX2 19 "LitmusHall$Findings" "full" "Z"]
def wsX8_schedule_r9 : List Cond := [Cond.fieldLink RX2 22 "LitmusHall$Explorer" "size" "I", Cond.fieldLink RX2 28 "LitmusHall$Findings" "states" "I", Cond.fieldLink RX2 31 "LitmusHall$Explorer" "endSize" "I", Cond.fieldLink RX2 34 "LitmusHall$Findings" "size" "I", Cond.fieldLink RX2 11 "LitmusHall$Findings" "records" "[I", Cond.methodLink RX2 35 Lib.Math.min.name, Cond.methodLink RX2 41 yX2_record, Cond.instanceMethod yX2_record, Cond.selects RX2 yX2_record yX2_record, Cond.code yX2_record cX2_record 8 none, Cond.fieldLink RX2 45 "LitmusHall$Explorer" "ends" "[I", Cond.fieldLink RX2 61 "LitmusHall$Explorer" "path" "[I", Cond.methodLink RX2 48 yX1_intOf, Cond.instanceMethod yX1_intOf, Cond.selects RX1 yX1_intOf yX1_intOf, Cond.code yX1_intOf cX1_intOf 3 (some .int), Cond.methodLink RX2 51 yJ7_fill_fda19, Cond.static yJ7_fill_fda19, Cond.code yJ7_fill_fda19 cJ7_fill_fda19 5 none, Cond.methodLink RJ7 13 yJ7_rangeCheck_23922, Cond.static yJ7_rangeCheck_23922, Cond.code yJ7_rangeCheck_23922 cJ7_rangeCheck_23922 3 none, Cond.methodLink RX2 57 yX1_pathTo, Cond.instanceMethod yX1_pathTo]
def wsX8_schedule_r10 : List Cond := [Cond.selects RX1 yX1_pathTo yX1_pathTo, Cond.code yX1_pathTo cX1_pathTo 6 (some .int), Cond.methodLink RX8 159 yX2_has, Cond.instanceMethod yX2_has, Cond.selects RX2 yX2_has yX2_has, Cond.code yX2_has cX2_has 2 (some .boolean), Cond.methodLink RX8 165 yX2_stepOf, Cond.instanceMethod yX2_stepOf, Cond.selects RX2 yX2_stepOf yX2_stepOf, Cond.code yX2_stepOf cX2_stepOf 4 (some .int)]
def wsX8_schedule : List Cond := .code yX8_schedule cX8_schedule 5 (some .int) :: ((wsX8_schedule_r1 ++ (wsX8_schedule_r2 ++ (wsX8_schedule_r3 ++ (wsX8_schedule_r4 ++ (wsX8_schedule_r5 ++ (wsX8_schedule_r6 ++ (wsX8_schedule_r7 ++ (wsX8_schedule_r8 ++ (wsX8_schedule_r9 ++ wsX8_schedule_r10))))))))) ++ wsX80 ++ wsX20 ++ wsX10 ++ wsX70 ++ wsX40)
def wsX8_more_r1 : List Cond := [Cond.fieldLink RX8 79 "LitmusHall" "loaded" "Z", Cond.fieldLink RX8 153 "LitmusHall$Findings" "full" "Z", Cond.methodLink RX8 149 yX8_found, Cond.instanceMethod yX8_found, Cond.selects RX8 yX8_found yX8_found, Cond.initialized RX8, Cond.code yX8_found cX8_found 4 (some (.object "LitmusHall$Findings")), Cond.fieldLink RX8 41 "LitmusHall" "withRows" "LLitmusHall$Findings;", Cond.fieldLink RX8 45 "LitmusHall" "withoutRows" "LLitmusHall$Findings;", Cond.fieldLink RX8 89 "LitmusHall$Findings" "known" "Z", Cond.fieldLink RX8 27 "LitmusHall" "program" "LLitmusHall$Program;", Cond.methodLink RX8 181 yX8_explorerAtHand, Cond.instanceMethod yX8_explorerAtHand, Cond.selects RX8 yX8_explorerAtHand yX8_explorerAtHand, Cond.code yX8_explorerAtHand cX8_explorerAtHand 1 (some (.object "LitmusHall$Explorer")), Cond.fieldLink RX8 227 "LitmusHall" "explorer" "LLitmusHall$Explorer;", Cond.classLink RX8 219 RX1, Cond.instantiable RX1 10, Cond.initialized RX1, Cond.instanceMethod yX1_init, Cond.code yX1_init cX1_init 1 none, Cond.methodLink RX1 7 objectInit, Cond.instanceMethod objectInit, Cond.code objectInit ⟨#[0xb1]⟩ 1 none]
def wsX8_more_r2 : List Cond := [Cond.arrayClass .int, Cond.fieldLink RX1 13 "LitmusHall$Explorer" "ends" "[I", Cond.fieldLink RX1 17 "LitmusHall$Explorer" "path" "[I", Cond.classLink RX1 3 RX7, Cond.instantiable RX7 1, Cond.initialized RX7, Cond.fieldLink RX1 21 "LitmusHall$Explorer" "state" "LLitmusHall$State;", Cond.fieldLink RX1 25 "LitmusHall$Explorer" "moved" "LLitmusHall$State;", Cond.fieldLink RX1 28 "LitmusHall$Explorer" "width" "I", Cond.fieldLink RX1 32 "LitmusHall$Explorer" "rows" "[I", Cond.fieldLink RX1 35 "LitmusHall$Explorer" "slots" "[I", Cond.fieldLink RX1 38 "LitmusHall$Explorer" "came" "[I", Cond.instanceMethod yX7_init, Cond.code yX7_init cX7_init 1 none, Cond.methodLink RX7 5 objectInit, Cond.fieldLink RX7 11 "LitmusHall$State" "words" "[I", Cond.methodLink RX8 218 yX1_explore, Cond.instanceMethod yX1_explore, Cond.selects RX1 yX1_explore yX1_explore, Cond.code yX1_explore cX1_explore 5 (some .boolean), Cond.fieldLink RX1 47 "LitmusHall$Explorer" "size" "I", Cond.fieldLink RX1 50 "LitmusHall$Explorer" "endSize" "I", Cond.fieldLink RX1 61 "LitmusHall$State" "words" "[I", Cond.methodLink RX1 83 arraycopyName]
def wsX8_more_r3 : List Cond := [Cond.native arraycopyName, Cond.static arraycopyName, Cond.initialized "java/lang/System", Cond.methodLink RX1 41 yJ7_fill_53178, Cond.static yJ7_fill_53178, Cond.initialized RJ7, Cond.code yJ7_fill_53178 cJ7_fill_53178 4 none, Cond.methodLink RX1 53 yX7_widthOf, Cond.static yX7_widthOf, Cond.code yX7_widthOf cX7_widthOf 2 (some .int), Cond.fieldLink RX7 15 "LitmusHall$Program" "cores" "I", Cond.methodLink RX1 57 yX7_start, Cond.instanceMethod yX7_start, Cond.selects RX7 yX7_start yX7_start, Cond.code yX7_start cX7_start 2 none, Cond.fieldLink RX7 27 "LitmusHall$Program" "cells" "[I", Cond.methodLink RX7 30 arraycopyName, Cond.methodLink RX7 21 yJ7_fill_53178, Cond.methodLink RX1 64 yX1_keep, Cond.instanceMethod yX1_keep, Cond.selects RX1 yX1_keep yX1_keep, Cond.code yX1_keep cX1_keep 7 (some .boolean), Cond.methodLink RX1 93 yX1_hashOf, Cond.instanceMethod yX1_hashOf]
def wsX8_more_r4 : List Cond := [Cond.selects RX1 yX1_hashOf yX1_hashOf, Cond.code yX1_hashOf cX1_hashOf 4 (some .int), Cond.constant RX1 105 (-2048144789), Cond.methodLink RX1 97 yX1_add, Cond.instanceMethod yX1_add, Cond.selects RX1 yX1_add yX1_add, Cond.code yX1_add cX1_add 5 (some .boolean), Cond.constant RX1 106 (102000), Cond.methodLink RX1 107 Lib.Math.min.name, Cond.static Lib.Math.min.name, Cond.initialized "java/lang/Math", Cond.code Lib.Math.min.name Lib.Math.min.code 2 (some .int), Cond.methodLink RX1 113 yJ7_copyOf_59c91, Cond.static yJ7_copyOf_59c91, Cond.code yJ7_copyOf_59c91 cJ7_copyOf_59c91 3 (some (.array .int)), Cond.methodLink RJ7 316 ⟨"[I", "clone", "()Ljava/lang/Object;"⟩, Cond.sameMethod "[I" "java/lang/Object" "clone" "()Ljava/lang/Object;", Cond.native ⟨"java/lang/Object", "clone", "()Ljava/lang/Object;"⟩, Cond.instanceMethod ⟨"java/lang/Object", "clone", "()Ljava/lang/Object;"⟩, Cond.selects "[I" ⟨"[I", "clone", "()Ljava/lang/Object;"⟩ ⟨"java/lang/Object", "clone", "()Ljava/lang/Object;"⟩, Cond.classLink RJ7 317 "[I", Cond.methodLink RJ7 304 Lib.Math.min.name, Cond.methodLink RJ7 150 arraycopyName, Cond.methodLink RX1 101 yX1_isSame]
def wsX8_more_r5 : List Cond := [Cond.instanceMethod yX1_isSame, Cond.selects RX1 yX1_isSame yX1_isSame, Cond.code yX1_isSame cX1_isSame 5 (some .boolean), Cond.methodLink RX1 68 yX1_fetch, Cond.instanceMethod yX1_fetch, Cond.selects RX1 yX1_fetch yX1_fetch, Cond.code yX1_fetch cX1_fetch 2 none, Cond.methodLink RX1 72 yX7_hasEnded, Cond.instanceMethod yX7_hasEnded, Cond.selects RX7 yX7_hasEnded yX7_hasEnded, Cond.code yX7_hasEnded cX7_hasEnded 3 (some .boolean), Cond.fieldLink RX7 36 "LitmusHall$Program" "lengths" "[I", Cond.methodLink RX1 76 yX1_addEnd, Cond.instanceMethod yX1_addEnd, Cond.selects RX1 yX1_addEnd yX1_addEnd, Cond.code yX1_addEnd cX1_addEnd 6 none, Cond.methodLink RX1 117 yX1_isBefore, Cond.instanceMethod yX1_isBefore, Cond.selects RX1 yX1_isBefore yX1_isBefore, Cond.code yX1_isBefore cX1_isBefore 6 (some .boolean), Cond.methodLink RX1 79 yX7_can, Cond.instanceMethod yX7_can, Cond.selects RX7 yX7_can yX7_can, Cond.code yX7_can cX7_can 4 (some .boolean)]
def wsX8_more_r6 : List Cond := [Cond.methodLink RX7 39 yX7_rowSize, Cond.instanceMethod yX7_rowSize, Cond.selects RX7 yX7_rowSize yX7_rowSize, Cond.code yX7_rowSize cX7_rowSize 2 (some .int), Cond.methodLink RX7 43 yX7_nextOf, Cond.instanceMethod yX7_nextOf, Cond.selects RX7 yX7_nextOf yX7_nextOf, Cond.code yX7_nextOf cX7_nextOf 2 (some .int), Cond.methodLink RX7 46 yX4_part, Cond.instanceMethod yX4_part, Cond.selects RX4 yX4_part yX4_part, Cond.initialized RX4, Cond.code yX4_part cX4_part 4 (some .int), Cond.fieldLink RX4 18 "LitmusHall$Program" "parts" "[I", Cond.methodLink RX4 31 yX4_partsAt, Cond.static yX4_partsAt, Cond.code yX4_partsAt cX4_partsAt 2 (some .int), Cond.methodLink RX7 50 yX7_waits, Cond.static yX7_waits, Cond.code yX7_waits cX7_waits 1 (some .boolean), Cond.methodLink RX7 54 yX7_isLocked, Cond.static yX7_isLocked, Cond.code yX7_isLocked cX7_isLocked 1 (some .boolean), Cond.methodLink RX1 89 yX7_move]
def wsX8_more_r7 : List Cond := [Cond.instanceMethod yX7_move, Cond.selects RX7 yX7_move yX7_move, Cond.code yX7_move cX7_move 8 none, Cond.fieldLink RX7 61 "LitmusHall$Program" "parts" "[I", Cond.methodLink RX7 57 yX7_letGo, Cond.instanceMethod yX7_letGo, Cond.selects RX7 yX7_letGo yX7_letGo, Cond.code yX7_letGo cX7_letGo 5 none, Cond.constant RX7 89 (-524161), Cond.methodLink RX7 86 yX7_rowCell, Cond.instanceMethod yX7_rowCell, Cond.selects RX7 yX7_rowCell yX7_rowCell, Cond.code yX7_rowCell cX7_rowCell 3 (some .int), Cond.methodLink RX7 64 yX4_partsAt, Cond.methodLink RX7 68 yX7_seen, Cond.instanceMethod yX7_seen, Cond.selects RX7 yX7_seen yX7_seen, Cond.code yX7_seen cX7_seen 4 (some .int), Cond.methodLink RX7 90 yX7_rowInt, Cond.instanceMethod yX7_rowInt, Cond.selects RX7 yX7_rowInt yX7_rowInt, Cond.code yX7_rowInt cX7_rowInt 3 (some .int), Cond.methodLink RX7 71 yX7_valueOf, Cond.instanceMethod yX7_valueOf]
def wsX8_more_r8 : List Cond := [Cond.selects RX7 yX7_valueOf yX7_valueOf, Cond.code yX7_valueOf cX7_valueOf 5 (some .int), Cond.methodLink RX7 75 yX7_put, Cond.instanceMethod yX7_put, Cond.selects RX7 yX7_put yX7_put, Cond.code yX7_put cX7_put 6 none, Cond.methodLink RX7 79 yX7_forgetStored, Cond.instanceMethod yX7_forgetStored, Cond.selects RX7 yX7_forgetStored yX7_forgetStored, Cond.code yX7_forgetStored cX7_forgetStored 2 none, Cond.constant RX7 93 (-7864321), Cond.methodLink RX7 82 yX7_lock, Cond.instanceMethod yX7_lock, Cond.selects RX7 yX7_lock yX7_lock, Cond.code yX7_lock cX7_lock 11 none, Cond.methodLink RX8 223 yX2_fill, Cond.instanceMethod yX2_fill, Cond.selects RX2 yX2_fill yX2_fill, Cond.initialized RX2, Cond.code yX2_fill cX2_fill 4 none, Cond.fieldLink RX2 15 "LitmusHall$Findings" "known" "Z", Cond.fieldLink RX2 19 "LitmusHall$Findings" "full" "Z", Cond.fieldLink RX2 22 "LitmusHall$Explorer" "size" "I", Cond.fieldLink RX2 28 "LitmusHall$Findings" "states" "I"]
def wsX8_more_r9 : List Cond := [Cond.fieldLink RX2 31 "LitmusHall$Explorer" "endSize" "I", Cond.fieldLink RX2 34 "LitmusHall$Findings" "size" "I", Cond.fieldLink RX2 11 "LitmusHall$Findings" "records" "[I", Cond.methodLink RX2 35 Lib.Math.min.name, Cond.methodLink RX2 41 yX2_record, Cond.instanceMethod yX2_record, Cond.selects RX2 yX2_record yX2_record, Cond.code yX2_record cX2_record 8 none, Cond.fieldLink RX2 45 "LitmusHall$Explorer" "ends" "[I", Cond.fieldLink RX2 61 "LitmusHall$Explorer" "path" "[I", Cond.methodLink RX2 48 yX1_intOf, Cond.instanceMethod yX1_intOf, Cond.selects RX1 yX1_intOf yX1_intOf, Cond.code yX1_intOf cX1_intOf 3 (some .int), Cond.methodLink RX2 51 yJ7_fill_fda19, Cond.static yJ7_fill_fda19, Cond.code yJ7_fill_fda19 cJ7_fill_fda19 5 none, Cond.methodLink RJ7 13 yJ7_rangeCheck_23922, Cond.static yJ7_rangeCheck_23922, Cond.code yJ7_rangeCheck_23922 cJ7_rangeCheck_23922 3 none, Cond.methodLink RX2 57 yX1_pathTo, Cond.instanceMethod yX1_pathTo, Cond.selects RX1 yX1_pathTo yX1_pathTo, Cond.code yX1_pathTo cX1_pathTo 6 (some .int)]
def wsX8_more_r10 : List Cond := [Cond.methodLink RX8 168 yX2_numberOfOther, Cond.instanceMethod yX2_numberOfOther, Cond.selects RX2 yX2_numberOfOther yX2_numberOfOther, Cond.code yX2_numberOfOther cX2_numberOfOther 6 (some .int), Cond.methodLink RX2 64 yX2_compare, Cond.instanceMethod yX2_compare, Cond.selects RX2 yX2_compare yX2_compare, Cond.code yX2_compare cX2_compare 6 (some .int), Cond.methodLink RX2 68 yX2_intOf, Cond.instanceMethod yX2_intOf, Cond.selects RX2 yX2_intOf yX2_intOf, Cond.code yX2_intOf cX2_intOf 3 (some .int), Cond.methodLink RX2 69 yJ6_compare_7cf53, Cond.static yJ6_compare_7cf53, Cond.initialized RJ6, Cond.code yJ6_compare_7cf53 cJ6_compare_7cf53 2 (some .int)]
def wsX8_more : List Cond := .code yX8_more cX8_more 4 (some .int) :: ((wsX8_more_r1 ++ (wsX8_more_r2 ++ (wsX8_more_r3 ++ (wsX8_more_r4 ++ (wsX8_more_r5 ++ (wsX8_more_r6 ++ (wsX8_more_r7 ++ (wsX8_more_r8 ++ (wsX8_more_r9 ++ wsX8_more_r10))))))))) ++ wsX80 ++ wsX20 ++ wsX10 ++ wsX70 ++ wsX40)
def wsX8_findRace_r1 : List Cond := [Cond.fieldLink RX8 51 "LitmusHall" "theRace" "LLitmusHall$Race;", Cond.fieldLink RX8 92 "LitmusHall$Race" "known" "Z", Cond.fieldLink RX8 27 "LitmusHall" "program" "LLitmusHall$Program;", Cond.methodLink RX8 181 yX8_explorerAtHand, Cond.instanceMethod yX8_explorerAtHand, Cond.selects RX8 yX8_explorerAtHand yX8_explorerAtHand, Cond.initialized RX8, Cond.code yX8_explorerAtHand cX8_explorerAtHand 1 (some (.object "LitmusHall$Explorer")), Cond.fieldLink RX8 227 "LitmusHall" "explorer" "LLitmusHall$Explorer;", Cond.classLink RX8 219 RX1, Cond.instantiable RX1 10, Cond.initialized RX1, Cond.instanceMethod yX1_init, Cond.code yX1_init cX1_init 1 none, Cond.methodLink RX1 7 objectInit, Cond.instanceMethod objectInit, Cond.code objectInit ⟨#[0xb1]⟩ 1 none, Cond.arrayClass .int, Cond.fieldLink RX1 13 "LitmusHall$Explorer" "ends" "[I", Cond.fieldLink RX1 17 "LitmusHall$Explorer" "path" "[I", Cond.classLink RX1 3 RX7, Cond.instantiable RX7 1, Cond.initialized RX7, Cond.fieldLink RX1 21 "LitmusHall$Explorer" "state" "LLitmusHall$State;"]
def wsX8_findRace_r2 : List Cond := [Cond.fieldLink RX1 25 "LitmusHall$Explorer" "moved" "LLitmusHall$State;", Cond.fieldLink RX1 28 "LitmusHall$Explorer" "width" "I", Cond.fieldLink RX1 32 "LitmusHall$Explorer" "rows" "[I", Cond.fieldLink RX1 35 "LitmusHall$Explorer" "slots" "[I", Cond.fieldLink RX1 38 "LitmusHall$Explorer" "came" "[I", Cond.instanceMethod yX7_init, Cond.code yX7_init cX7_init 1 none, Cond.methodLink RX7 5 objectInit, Cond.fieldLink RX7 11 "LitmusHall$State" "words" "[I", Cond.methodLink RX8 185 yX5_search, Cond.instanceMethod yX5_search, Cond.selects RX5 yX5_search yX5_search, Cond.initialized RX5, Cond.code yX5_search cX5_search 4 none, Cond.fieldLink RX5 15 "LitmusHall$Race" "known" "Z", Cond.fieldLink RX5 19 "LitmusHall$Race" "answer" "I", Cond.fieldLink RX5 29 "LitmusHall$Explorer" "size" "I", Cond.fieldLink RX5 36 "LitmusHall$Explorer" "state" "LLitmusHall$State;", Cond.fieldLink RX5 48 "LitmusHall$Race" "steps" "I", Cond.fieldLink RX5 51 "LitmusHall$Explorer" "path" "[I", Cond.fieldLink RX5 9 "LitmusHall$Race" "path" "[I", Cond.methodLink RX5 52 arraycopyName, Cond.native arraycopyName, Cond.static arraycopyName]
def wsX8_findRace_r3 : List Cond := [Cond.initialized "java/lang/System", Cond.methodLink RX5 23 yX1_explore, Cond.instanceMethod yX1_explore, Cond.selects RX1 yX1_explore yX1_explore, Cond.code yX1_explore cX1_explore 5 (some .boolean), Cond.fieldLink RX1 47 "LitmusHall$Explorer" "size" "I", Cond.fieldLink RX1 50 "LitmusHall$Explorer" "endSize" "I", Cond.fieldLink RX1 61 "LitmusHall$State" "words" "[I", Cond.methodLink RX1 83 arraycopyName, Cond.methodLink RX1 41 yJ7_fill_53178, Cond.static yJ7_fill_53178, Cond.initialized RJ7, Cond.code yJ7_fill_53178 cJ7_fill_53178 4 none, Cond.methodLink RX1 53 yX7_widthOf, Cond.static yX7_widthOf, Cond.code yX7_widthOf cX7_widthOf 2 (some .int), Cond.fieldLink RX7 15 "LitmusHall$Program" "cores" "I", Cond.methodLink RX1 57 yX7_start, Cond.instanceMethod yX7_start, Cond.selects RX7 yX7_start yX7_start, Cond.code yX7_start cX7_start 2 none, Cond.fieldLink RX7 27 "LitmusHall$Program" "cells" "[I", Cond.methodLink RX7 30 arraycopyName, Cond.methodLink RX7 21 yJ7_fill_53178]
def wsX8_findRace_r4 : List Cond := [Cond.methodLink RX1 64 yX1_keep, Cond.instanceMethod yX1_keep, Cond.selects RX1 yX1_keep yX1_keep, Cond.code yX1_keep cX1_keep 7 (some .boolean), Cond.methodLink RX1 93 yX1_hashOf, Cond.instanceMethod yX1_hashOf, Cond.selects RX1 yX1_hashOf yX1_hashOf, Cond.code yX1_hashOf cX1_hashOf 4 (some .int), Cond.constant RX1 105 (-2048144789), Cond.methodLink RX1 97 yX1_add, Cond.instanceMethod yX1_add, Cond.selects RX1 yX1_add yX1_add, Cond.code yX1_add cX1_add 5 (some .boolean), Cond.constant RX1 106 (102000), Cond.methodLink RX1 107 Lib.Math.min.name, Cond.static Lib.Math.min.name, Cond.initialized "java/lang/Math", Cond.code Lib.Math.min.name Lib.Math.min.code 2 (some .int), Cond.methodLink RX1 113 yJ7_copyOf_59c91, Cond.static yJ7_copyOf_59c91, Cond.code yJ7_copyOf_59c91 cJ7_copyOf_59c91 3 (some (.array .int)), Cond.methodLink RJ7 316 ⟨"[I", "clone", "()Ljava/lang/Object;"⟩, Cond.sameMethod "[I" "java/lang/Object" "clone" "()Ljava/lang/Object;", Cond.native ⟨"java/lang/Object", "clone", "()Ljava/lang/Object;"⟩]
def wsX8_findRace_r5 : List Cond := [Cond.instanceMethod ⟨"java/lang/Object", "clone", "()Ljava/lang/Object;"⟩, Cond.selects "[I" ⟨"[I", "clone", "()Ljava/lang/Object;"⟩ ⟨"java/lang/Object", "clone", "()Ljava/lang/Object;"⟩, Cond.classLink RJ7 317 "[I", Cond.methodLink RJ7 304 Lib.Math.min.name, Cond.methodLink RJ7 150 arraycopyName, Cond.methodLink RX1 101 yX1_isSame, Cond.instanceMethod yX1_isSame, Cond.selects RX1 yX1_isSame yX1_isSame, Cond.code yX1_isSame cX1_isSame 5 (some .boolean), Cond.methodLink RX1 68 yX1_fetch, Cond.instanceMethod yX1_fetch, Cond.selects RX1 yX1_fetch yX1_fetch, Cond.code yX1_fetch cX1_fetch 2 none, Cond.methodLink RX1 72 yX7_hasEnded, Cond.instanceMethod yX7_hasEnded, Cond.selects RX7 yX7_hasEnded yX7_hasEnded, Cond.code yX7_hasEnded cX7_hasEnded 3 (some .boolean), Cond.fieldLink RX7 36 "LitmusHall$Program" "lengths" "[I", Cond.methodLink RX1 76 yX1_addEnd, Cond.instanceMethod yX1_addEnd, Cond.selects RX1 yX1_addEnd yX1_addEnd, Cond.code yX1_addEnd cX1_addEnd 6 none, Cond.methodLink RX1 117 yX1_isBefore, Cond.instanceMethod yX1_isBefore]
def wsX8_findRace_r6 : List Cond := [Cond.selects RX1 yX1_isBefore yX1_isBefore, Cond.code yX1_isBefore cX1_isBefore 6 (some .boolean), Cond.methodLink RX1 79 yX7_can, Cond.instanceMethod yX7_can, Cond.selects RX7 yX7_can yX7_can, Cond.code yX7_can cX7_can 4 (some .boolean), Cond.methodLink RX7 39 yX7_rowSize, Cond.instanceMethod yX7_rowSize, Cond.selects RX7 yX7_rowSize yX7_rowSize, Cond.code yX7_rowSize cX7_rowSize 2 (some .int), Cond.methodLink RX7 43 yX7_nextOf, Cond.instanceMethod yX7_nextOf, Cond.selects RX7 yX7_nextOf yX7_nextOf, Cond.code yX7_nextOf cX7_nextOf 2 (some .int), Cond.methodLink RX7 46 yX4_part, Cond.instanceMethod yX4_part, Cond.selects RX4 yX4_part yX4_part, Cond.initialized RX4, Cond.code yX4_part cX4_part 4 (some .int), Cond.fieldLink RX4 18 "LitmusHall$Program" "parts" "[I", Cond.methodLink RX4 31 yX4_partsAt, Cond.static yX4_partsAt, Cond.code yX4_partsAt cX4_partsAt 2 (some .int), Cond.methodLink RX7 50 yX7_waits]
def wsX8_findRace_r7 : List Cond := [Cond.static yX7_waits, Cond.code yX7_waits cX7_waits 1 (some .boolean), Cond.methodLink RX7 54 yX7_isLocked, Cond.static yX7_isLocked, Cond.code yX7_isLocked cX7_isLocked 1 (some .boolean), Cond.methodLink RX1 89 yX7_move, Cond.instanceMethod yX7_move, Cond.selects RX7 yX7_move yX7_move, Cond.code yX7_move cX7_move 8 none, Cond.fieldLink RX7 61 "LitmusHall$Program" "parts" "[I", Cond.methodLink RX7 57 yX7_letGo, Cond.instanceMethod yX7_letGo, Cond.selects RX7 yX7_letGo yX7_letGo, Cond.code yX7_letGo cX7_letGo 5 none, Cond.constant RX7 89 (-524161), Cond.methodLink RX7 86 yX7_rowCell, Cond.instanceMethod yX7_rowCell, Cond.selects RX7 yX7_rowCell yX7_rowCell, Cond.code yX7_rowCell cX7_rowCell 3 (some .int), Cond.methodLink RX7 64 yX4_partsAt, Cond.methodLink RX7 68 yX7_seen, Cond.instanceMethod yX7_seen, Cond.selects RX7 yX7_seen yX7_seen, Cond.code yX7_seen cX7_seen 4 (some .int)]
def wsX8_findRace_r8 : List Cond := [Cond.methodLink RX7 90 yX7_rowInt, Cond.instanceMethod yX7_rowInt, Cond.selects RX7 yX7_rowInt yX7_rowInt, Cond.code yX7_rowInt cX7_rowInt 3 (some .int), Cond.methodLink RX7 71 yX7_valueOf, Cond.instanceMethod yX7_valueOf, Cond.selects RX7 yX7_valueOf yX7_valueOf, Cond.code yX7_valueOf cX7_valueOf 5 (some .int), Cond.methodLink RX7 75 yX7_put, Cond.instanceMethod yX7_put, Cond.selects RX7 yX7_put yX7_put, Cond.code yX7_put cX7_put 6 none, Cond.methodLink RX7 79 yX7_forgetStored, Cond.instanceMethod yX7_forgetStored, Cond.selects RX7 yX7_forgetStored yX7_forgetStored, Cond.code yX7_forgetStored cX7_forgetStored 2 none, Cond.constant RX7 93 (-7864321), Cond.methodLink RX7 82 yX7_lock, Cond.instanceMethod yX7_lock, Cond.selects RX7 yX7_lock yX7_lock, Cond.code yX7_lock cX7_lock 11 none, Cond.methodLink RX5 32 yX1_fetch, Cond.methodLink RX5 40 yX5_isRace, Cond.instanceMethod yX5_isRace]
def wsX8_findRace_r9 : List Cond := [Cond.selects RX5 yX5_isRace yX5_isRace, Cond.code yX5_isRace cX5_isRace 6 (some .boolean), Cond.fieldLink RX5 58 "LitmusHall$Program" "cores" "I", Cond.fieldLink RX5 76 "LitmusHall$Race" "loader" "I", Cond.fieldLink RX5 79 "LitmusHall$Race" "writer" "I", Cond.fieldLink RX5 82 "LitmusHall$Race" "cell" "I", Cond.methodLink RX5 63 yX5_loadedCell, Cond.static yX5_loadedCell, Cond.code yX5_loadedCell cX5_loadedCell 5 (some .int), Cond.fieldLink RX5 88 "LitmusHall$Program" "lengths" "[I", Cond.methodLink RX5 85 yX7_nextOf, Cond.methodLink RX5 91 yX4_part, Cond.methodLink RX5 67 yX7_storedTo, Cond.instanceMethod yX7_storedTo, Cond.selects RX7 yX7_storedTo yX7_storedTo, Cond.code yX7_storedTo cX7_storedTo 2 (some .int), Cond.methodLink RX5 72 yX5_writes, Cond.static yX5_writes, Cond.code yX5_writes cX5_writes 6 (some .boolean), Cond.methodLink RX5 95 yX7_isLocked, Cond.methodLink RX5 44 yX1_pathTo, Cond.instanceMethod yX1_pathTo, Cond.selects RX1 yX1_pathTo yX1_pathTo, Cond.code yX1_pathTo cX1_pathTo 6 (some .int)]
def wsX8_findRace : List Cond := .code yX8_findRace cX8_findRace 1 none :: ((wsX8_findRace_r1 ++ (wsX8_findRace_r2 ++ (wsX8_findRace_r3 ++ (wsX8_findRace_r4 ++ (wsX8_findRace_r5 ++ (wsX8_findRace_r6 ++ (wsX8_findRace_r7 ++ (wsX8_findRace_r8 ++ wsX8_findRace_r9)))))))) ++ wsX80 ++ wsX50 ++ wsX10 ++ wsX70 ++ wsX40)
def wsX8_race_r1 : List Cond := [Cond.fieldLink RX8 79 "LitmusHall" "loaded" "Z", Cond.fieldLink RX8 51 "LitmusHall" "theRace" "LLitmusHall$Race;", Cond.fieldLink RX8 175 "LitmusHall$Race" "answer" "I", Cond.methodLink RX8 172 yX8_findRace, Cond.instanceMethod yX8_findRace, Cond.selects RX8 yX8_findRace yX8_findRace, Cond.initialized RX8, Cond.code yX8_findRace cX8_findRace 1 none, Cond.fieldLink RX8 92 "LitmusHall$Race" "known" "Z", Cond.fieldLink RX8 27 "LitmusHall" "program" "LLitmusHall$Program;", Cond.methodLink RX8 181 yX8_explorerAtHand, Cond.instanceMethod yX8_explorerAtHand, Cond.selects RX8 yX8_explorerAtHand yX8_explorerAtHand, Cond.code yX8_explorerAtHand cX8_explorerAtHand 1 (some (.object "LitmusHall$Explorer")), Cond.fieldLink RX8 227 "LitmusHall" "explorer" "LLitmusHall$Explorer;", Cond.classLink RX8 219 RX1, Cond.instantiable RX1 10, Cond.initialized RX1, Cond.instanceMethod yX1_init, Cond.code yX1_init cX1_init 1 none, Cond.methodLink RX1 7 objectInit, Cond.instanceMethod objectInit, Cond.code objectInit ⟨#[0xb1]⟩ 1 none, Cond.arrayClass .int]
def wsX8_race_r2 : List Cond := [Cond.fieldLink RX1 13 "LitmusHall$Explorer" "ends" "[I", Cond.fieldLink RX1 17 "LitmusHall$Explorer" "path" "[I", Cond.classLink RX1 3 RX7, Cond.instantiable RX7 1, Cond.initialized RX7, Cond.fieldLink RX1 21 "LitmusHall$Explorer" "state" "LLitmusHall$State;", Cond.fieldLink RX1 25 "LitmusHall$Explorer" "moved" "LLitmusHall$State;", Cond.fieldLink RX1 28 "LitmusHall$Explorer" "width" "I", Cond.fieldLink RX1 32 "LitmusHall$Explorer" "rows" "[I", Cond.fieldLink RX1 35 "LitmusHall$Explorer" "slots" "[I", Cond.fieldLink RX1 38 "LitmusHall$Explorer" "came" "[I", Cond.instanceMethod yX7_init, Cond.code yX7_init cX7_init 1 none, Cond.methodLink RX7 5 objectInit, Cond.fieldLink RX7 11 "LitmusHall$State" "words" "[I", Cond.methodLink RX8 185 yX5_search, Cond.instanceMethod yX5_search, Cond.selects RX5 yX5_search yX5_search, Cond.initialized RX5, Cond.code yX5_search cX5_search 4 none, Cond.fieldLink RX5 15 "LitmusHall$Race" "known" "Z", Cond.fieldLink RX5 19 "LitmusHall$Race" "answer" "I", Cond.fieldLink RX5 29 "LitmusHall$Explorer" "size" "I", Cond.fieldLink RX5 36 "LitmusHall$Explorer" "state" "LLitmusHall$State;"]
def wsX8_race_r3 : List Cond := [Cond.fieldLink RX5 48 "LitmusHall$Race" "steps" "I", Cond.fieldLink RX5 51 "LitmusHall$Explorer" "path" "[I", Cond.fieldLink RX5 9 "LitmusHall$Race" "path" "[I", Cond.methodLink RX5 52 arraycopyName, Cond.native arraycopyName, Cond.static arraycopyName, Cond.initialized "java/lang/System", Cond.methodLink RX5 23 yX1_explore, Cond.instanceMethod yX1_explore, Cond.selects RX1 yX1_explore yX1_explore, Cond.code yX1_explore cX1_explore 5 (some .boolean), Cond.fieldLink RX1 47 "LitmusHall$Explorer" "size" "I", Cond.fieldLink RX1 50 "LitmusHall$Explorer" "endSize" "I", Cond.fieldLink RX1 61 "LitmusHall$State" "words" "[I", Cond.methodLink RX1 83 arraycopyName, Cond.methodLink RX1 41 yJ7_fill_53178, Cond.static yJ7_fill_53178, Cond.initialized RJ7, Cond.code yJ7_fill_53178 cJ7_fill_53178 4 none, Cond.methodLink RX1 53 yX7_widthOf, Cond.static yX7_widthOf, Cond.code yX7_widthOf cX7_widthOf 2 (some .int), Cond.fieldLink RX7 15 "LitmusHall$Program" "cores" "I", Cond.methodLink RX1 57 yX7_start]
def wsX8_race_r4 : List Cond := [Cond.instanceMethod yX7_start, Cond.selects RX7 yX7_start yX7_start, Cond.code yX7_start cX7_start 2 none, Cond.fieldLink RX7 27 "LitmusHall$Program" "cells" "[I", Cond.methodLink RX7 30 arraycopyName, Cond.methodLink RX7 21 yJ7_fill_53178, Cond.methodLink RX1 64 yX1_keep, Cond.instanceMethod yX1_keep, Cond.selects RX1 yX1_keep yX1_keep, Cond.code yX1_keep cX1_keep 7 (some .boolean), Cond.methodLink RX1 93 yX1_hashOf, Cond.instanceMethod yX1_hashOf, Cond.selects RX1 yX1_hashOf yX1_hashOf, Cond.code yX1_hashOf cX1_hashOf 4 (some .int), Cond.constant RX1 105 (-2048144789), Cond.methodLink RX1 97 yX1_add, Cond.instanceMethod yX1_add, Cond.selects RX1 yX1_add yX1_add, Cond.code yX1_add cX1_add 5 (some .boolean), Cond.constant RX1 106 (102000), Cond.methodLink RX1 107 Lib.Math.min.name, Cond.static Lib.Math.min.name, Cond.initialized "java/lang/Math", Cond.code Lib.Math.min.name Lib.Math.min.code 2 (some .int)]
def wsX8_race_r5 : List Cond := [Cond.methodLink RX1 113 yJ7_copyOf_59c91, Cond.static yJ7_copyOf_59c91, Cond.code yJ7_copyOf_59c91 cJ7_copyOf_59c91 3 (some (.array .int)), Cond.methodLink RJ7 316 ⟨"[I", "clone", "()Ljava/lang/Object;"⟩, Cond.sameMethod "[I" "java/lang/Object" "clone" "()Ljava/lang/Object;", Cond.native ⟨"java/lang/Object", "clone", "()Ljava/lang/Object;"⟩, Cond.instanceMethod ⟨"java/lang/Object", "clone", "()Ljava/lang/Object;"⟩, Cond.selects "[I" ⟨"[I", "clone", "()Ljava/lang/Object;"⟩ ⟨"java/lang/Object", "clone", "()Ljava/lang/Object;"⟩, Cond.classLink RJ7 317 "[I", Cond.methodLink RJ7 304 Lib.Math.min.name, Cond.methodLink RJ7 150 arraycopyName, Cond.methodLink RX1 101 yX1_isSame, Cond.instanceMethod yX1_isSame, Cond.selects RX1 yX1_isSame yX1_isSame, Cond.code yX1_isSame cX1_isSame 5 (some .boolean), Cond.methodLink RX1 68 yX1_fetch, Cond.instanceMethod yX1_fetch, Cond.selects RX1 yX1_fetch yX1_fetch, Cond.code yX1_fetch cX1_fetch 2 none, Cond.methodLink RX1 72 yX7_hasEnded, Cond.instanceMethod yX7_hasEnded, Cond.selects RX7 yX7_hasEnded yX7_hasEnded, Cond.code yX7_hasEnded cX7_hasEnded 3 (some .boolean), Cond.fieldLink RX7 36 "LitmusHall$Program" "lengths" "[I"]
def wsX8_race_r6 : List Cond := [Cond.methodLink RX1 76 yX1_addEnd, Cond.instanceMethod yX1_addEnd, Cond.selects RX1 yX1_addEnd yX1_addEnd, Cond.code yX1_addEnd cX1_addEnd 6 none, Cond.methodLink RX1 117 yX1_isBefore, Cond.instanceMethod yX1_isBefore, Cond.selects RX1 yX1_isBefore yX1_isBefore, Cond.code yX1_isBefore cX1_isBefore 6 (some .boolean), Cond.methodLink RX1 79 yX7_can, Cond.instanceMethod yX7_can, Cond.selects RX7 yX7_can yX7_can, Cond.code yX7_can cX7_can 4 (some .boolean), Cond.methodLink RX7 39 yX7_rowSize, Cond.instanceMethod yX7_rowSize, Cond.selects RX7 yX7_rowSize yX7_rowSize, Cond.code yX7_rowSize cX7_rowSize 2 (some .int), Cond.methodLink RX7 43 yX7_nextOf, Cond.instanceMethod yX7_nextOf, Cond.selects RX7 yX7_nextOf yX7_nextOf, Cond.code yX7_nextOf cX7_nextOf 2 (some .int), Cond.methodLink RX7 46 yX4_part, Cond.instanceMethod yX4_part, Cond.selects RX4 yX4_part yX4_part, Cond.initialized RX4]
def wsX8_race_r7 : List Cond := [Cond.code yX4_part cX4_part 4 (some .int), Cond.fieldLink RX4 18 "LitmusHall$Program" "parts" "[I", Cond.methodLink RX4 31 yX4_partsAt, Cond.static yX4_partsAt, Cond.code yX4_partsAt cX4_partsAt 2 (some .int), Cond.methodLink RX7 50 yX7_waits, Cond.static yX7_waits, Cond.code yX7_waits cX7_waits 1 (some .boolean), Cond.methodLink RX7 54 yX7_isLocked, Cond.static yX7_isLocked, Cond.code yX7_isLocked cX7_isLocked 1 (some .boolean), Cond.methodLink RX1 89 yX7_move, Cond.instanceMethod yX7_move, Cond.selects RX7 yX7_move yX7_move, Cond.code yX7_move cX7_move 8 none, Cond.fieldLink RX7 61 "LitmusHall$Program" "parts" "[I", Cond.methodLink RX7 57 yX7_letGo, Cond.instanceMethod yX7_letGo, Cond.selects RX7 yX7_letGo yX7_letGo, Cond.code yX7_letGo cX7_letGo 5 none, Cond.constant RX7 89 (-524161), Cond.methodLink RX7 86 yX7_rowCell, Cond.instanceMethod yX7_rowCell, Cond.selects RX7 yX7_rowCell yX7_rowCell]
def wsX8_race_r8 : List Cond := [Cond.code yX7_rowCell cX7_rowCell 3 (some .int), Cond.methodLink RX7 64 yX4_partsAt, Cond.methodLink RX7 68 yX7_seen, Cond.instanceMethod yX7_seen, Cond.selects RX7 yX7_seen yX7_seen, Cond.code yX7_seen cX7_seen 4 (some .int), Cond.methodLink RX7 90 yX7_rowInt, Cond.instanceMethod yX7_rowInt, Cond.selects RX7 yX7_rowInt yX7_rowInt, Cond.code yX7_rowInt cX7_rowInt 3 (some .int), Cond.methodLink RX7 71 yX7_valueOf, Cond.instanceMethod yX7_valueOf, Cond.selects RX7 yX7_valueOf yX7_valueOf, Cond.code yX7_valueOf cX7_valueOf 5 (some .int), Cond.methodLink RX7 75 yX7_put, Cond.instanceMethod yX7_put, Cond.selects RX7 yX7_put yX7_put, Cond.code yX7_put cX7_put 6 none, Cond.methodLink RX7 79 yX7_forgetStored, Cond.instanceMethod yX7_forgetStored, Cond.selects RX7 yX7_forgetStored yX7_forgetStored, Cond.code yX7_forgetStored cX7_forgetStored 2 none, Cond.constant RX7 93 (-7864321), Cond.methodLink RX7 82 yX7_lock]
def wsX8_race_r9 : List Cond := [Cond.instanceMethod yX7_lock, Cond.selects RX7 yX7_lock yX7_lock, Cond.code yX7_lock cX7_lock 11 none, Cond.methodLink RX5 32 yX1_fetch, Cond.methodLink RX5 40 yX5_isRace, Cond.instanceMethod yX5_isRace, Cond.selects RX5 yX5_isRace yX5_isRace, Cond.code yX5_isRace cX5_isRace 6 (some .boolean), Cond.fieldLink RX5 58 "LitmusHall$Program" "cores" "I", Cond.fieldLink RX5 76 "LitmusHall$Race" "loader" "I", Cond.fieldLink RX5 79 "LitmusHall$Race" "writer" "I", Cond.fieldLink RX5 82 "LitmusHall$Race" "cell" "I", Cond.methodLink RX5 63 yX5_loadedCell, Cond.static yX5_loadedCell, Cond.code yX5_loadedCell cX5_loadedCell 5 (some .int), Cond.fieldLink RX5 88 "LitmusHall$Program" "lengths" "[I", Cond.methodLink RX5 85 yX7_nextOf, Cond.methodLink RX5 91 yX4_part, Cond.methodLink RX5 67 yX7_storedTo, Cond.instanceMethod yX7_storedTo, Cond.selects RX7 yX7_storedTo yX7_storedTo, Cond.code yX7_storedTo cX7_storedTo 2 (some .int), Cond.methodLink RX5 72 yX5_writes, Cond.static yX5_writes]
def wsX8_race_r10 : List Cond := [Cond.code yX5_writes cX5_writes 6 (some .boolean), Cond.methodLink RX5 95 yX7_isLocked, Cond.methodLink RX5 44 yX1_pathTo, Cond.instanceMethod yX1_pathTo, Cond.selects RX1 yX1_pathTo yX1_pathTo, Cond.code yX1_pathTo cX1_pathTo 6 (some .int)]
def wsX8_race : List Cond := .code yX8_race cX8_race 1 (some .int) :: ((wsX8_race_r1 ++ (wsX8_race_r2 ++ (wsX8_race_r3 ++ (wsX8_race_r4 ++ (wsX8_race_r5 ++ (wsX8_race_r6 ++ (wsX8_race_r7 ++ (wsX8_race_r8 ++ (wsX8_race_r9 ++ wsX8_race_r10))))))))) ++ wsX80 ++ wsX50 ++ wsX10 ++ wsX70 ++ wsX40)
def wsX8_racer_r1 : List Cond := [Cond.fieldLink RX8 79 "LitmusHall" "loaded" "Z", Cond.fieldLink RX8 51 "LitmusHall" "theRace" "LLitmusHall$Race;", Cond.methodLink RX8 172 yX8_findRace, Cond.instanceMethod yX8_findRace, Cond.selects RX8 yX8_findRace yX8_findRace, Cond.initialized RX8, Cond.code yX8_findRace cX8_findRace 1 none, Cond.fieldLink RX8 92 "LitmusHall$Race" "known" "Z", Cond.fieldLink RX8 27 "LitmusHall" "program" "LLitmusHall$Program;", Cond.methodLink RX8 181 yX8_explorerAtHand, Cond.instanceMethod yX8_explorerAtHand, Cond.selects RX8 yX8_explorerAtHand yX8_explorerAtHand, Cond.code yX8_explorerAtHand cX8_explorerAtHand 1 (some (.object "LitmusHall$Explorer")), Cond.fieldLink RX8 227 "LitmusHall" "explorer" "LLitmusHall$Explorer;", Cond.classLink RX8 219 RX1, Cond.instantiable RX1 10, Cond.initialized RX1, Cond.instanceMethod yX1_init, Cond.code yX1_init cX1_init 1 none, Cond.methodLink RX1 7 objectInit, Cond.instanceMethod objectInit, Cond.code objectInit ⟨#[0xb1]⟩ 1 none, Cond.arrayClass .int, Cond.fieldLink RX1 13 "LitmusHall$Explorer" "ends" "[I"]
def wsX8_racer_r2 : List Cond := [Cond.fieldLink RX1 17 "LitmusHall$Explorer" "path" "[I", Cond.classLink RX1 3 RX7, Cond.instantiable RX7 1, Cond.initialized RX7, Cond.fieldLink RX1 21 "LitmusHall$Explorer" "state" "LLitmusHall$State;", Cond.fieldLink RX1 25 "LitmusHall$Explorer" "moved" "LLitmusHall$State;", Cond.fieldLink RX1 28 "LitmusHall$Explorer" "width" "I", Cond.fieldLink RX1 32 "LitmusHall$Explorer" "rows" "[I", Cond.fieldLink RX1 35 "LitmusHall$Explorer" "slots" "[I", Cond.fieldLink RX1 38 "LitmusHall$Explorer" "came" "[I", Cond.instanceMethod yX7_init, Cond.code yX7_init cX7_init 1 none, Cond.methodLink RX7 5 objectInit, Cond.fieldLink RX7 11 "LitmusHall$State" "words" "[I", Cond.methodLink RX8 185 yX5_search, Cond.instanceMethod yX5_search, Cond.selects RX5 yX5_search yX5_search, Cond.initialized RX5, Cond.code yX5_search cX5_search 4 none, Cond.fieldLink RX5 15 "LitmusHall$Race" "known" "Z", Cond.fieldLink RX5 19 "LitmusHall$Race" "answer" "I", Cond.fieldLink RX5 29 "LitmusHall$Explorer" "size" "I", Cond.fieldLink RX5 36 "LitmusHall$Explorer" "state" "LLitmusHall$State;", Cond.fieldLink RX5 48 "LitmusHall$Race" "steps" "I"]
def wsX8_racer_r3 : List Cond := [Cond.fieldLink RX5 51 "LitmusHall$Explorer" "path" "[I", Cond.fieldLink RX5 9 "LitmusHall$Race" "path" "[I", Cond.methodLink RX5 52 arraycopyName, Cond.native arraycopyName, Cond.static arraycopyName, Cond.initialized "java/lang/System", Cond.methodLink RX5 23 yX1_explore, Cond.instanceMethod yX1_explore, Cond.selects RX1 yX1_explore yX1_explore, Cond.code yX1_explore cX1_explore 5 (some .boolean), Cond.fieldLink RX1 47 "LitmusHall$Explorer" "size" "I", Cond.fieldLink RX1 50 "LitmusHall$Explorer" "endSize" "I", Cond.fieldLink RX1 61 "LitmusHall$State" "words" "[I", Cond.methodLink RX1 83 arraycopyName, Cond.methodLink RX1 41 yJ7_fill_53178, Cond.static yJ7_fill_53178, Cond.initialized RJ7, Cond.code yJ7_fill_53178 cJ7_fill_53178 4 none, Cond.methodLink RX1 53 yX7_widthOf, Cond.static yX7_widthOf, Cond.code yX7_widthOf cX7_widthOf 2 (some .int), Cond.fieldLink RX7 15 "LitmusHall$Program" "cores" "I", Cond.methodLink RX1 57 yX7_start, Cond.instanceMethod yX7_start]
def wsX8_racer_r4 : List Cond := [Cond.selects RX7 yX7_start yX7_start, Cond.code yX7_start cX7_start 2 none, Cond.fieldLink RX7 27 "LitmusHall$Program" "cells" "[I", Cond.methodLink RX7 30 arraycopyName, Cond.methodLink RX7 21 yJ7_fill_53178, Cond.methodLink RX1 64 yX1_keep, Cond.instanceMethod yX1_keep, Cond.selects RX1 yX1_keep yX1_keep, Cond.code yX1_keep cX1_keep 7 (some .boolean), Cond.methodLink RX1 93 yX1_hashOf, Cond.instanceMethod yX1_hashOf, Cond.selects RX1 yX1_hashOf yX1_hashOf, Cond.code yX1_hashOf cX1_hashOf 4 (some .int), Cond.constant RX1 105 (-2048144789), Cond.methodLink RX1 97 yX1_add, Cond.instanceMethod yX1_add, Cond.selects RX1 yX1_add yX1_add, Cond.code yX1_add cX1_add 5 (some .boolean), Cond.constant RX1 106 (102000), Cond.methodLink RX1 107 Lib.Math.min.name, Cond.static Lib.Math.min.name, Cond.initialized "java/lang/Math", Cond.code Lib.Math.min.name Lib.Math.min.code 2 (some .int), Cond.methodLink RX1 113 yJ7_copyOf_59c91]
def wsX8_racer_r5 : List Cond := [Cond.static yJ7_copyOf_59c91, Cond.code yJ7_copyOf_59c91 cJ7_copyOf_59c91 3 (some (.array .int)), Cond.methodLink RJ7 316 ⟨"[I", "clone", "()Ljava/lang/Object;"⟩, Cond.sameMethod "[I" "java/lang/Object" "clone" "()Ljava/lang/Object;", Cond.native ⟨"java/lang/Object", "clone", "()Ljava/lang/Object;"⟩, Cond.instanceMethod ⟨"java/lang/Object", "clone", "()Ljava/lang/Object;"⟩, Cond.selects "[I" ⟨"[I", "clone", "()Ljava/lang/Object;"⟩ ⟨"java/lang/Object", "clone", "()Ljava/lang/Object;"⟩, Cond.classLink RJ7 317 "[I", Cond.methodLink RJ7 304 Lib.Math.min.name, Cond.methodLink RJ7 150 arraycopyName, Cond.methodLink RX1 101 yX1_isSame, Cond.instanceMethod yX1_isSame, Cond.selects RX1 yX1_isSame yX1_isSame, Cond.code yX1_isSame cX1_isSame 5 (some .boolean), Cond.methodLink RX1 68 yX1_fetch, Cond.instanceMethod yX1_fetch, Cond.selects RX1 yX1_fetch yX1_fetch, Cond.code yX1_fetch cX1_fetch 2 none, Cond.methodLink RX1 72 yX7_hasEnded, Cond.instanceMethod yX7_hasEnded, Cond.selects RX7 yX7_hasEnded yX7_hasEnded, Cond.code yX7_hasEnded cX7_hasEnded 3 (some .boolean), Cond.fieldLink RX7 36 "LitmusHall$Program" "lengths" "[I", Cond.methodLink RX1 76 yX1_addEnd]
def wsX8_racer_r6 : List Cond := [Cond.instanceMethod yX1_addEnd, Cond.selects RX1 yX1_addEnd yX1_addEnd, Cond.code yX1_addEnd cX1_addEnd 6 none, Cond.methodLink RX1 117 yX1_isBefore, Cond.instanceMethod yX1_isBefore, Cond.selects RX1 yX1_isBefore yX1_isBefore, Cond.code yX1_isBefore cX1_isBefore 6 (some .boolean), Cond.methodLink RX1 79 yX7_can, Cond.instanceMethod yX7_can, Cond.selects RX7 yX7_can yX7_can, Cond.code yX7_can cX7_can 4 (some .boolean), Cond.methodLink RX7 39 yX7_rowSize, Cond.instanceMethod yX7_rowSize, Cond.selects RX7 yX7_rowSize yX7_rowSize, Cond.code yX7_rowSize cX7_rowSize 2 (some .int), Cond.methodLink RX7 43 yX7_nextOf, Cond.instanceMethod yX7_nextOf, Cond.selects RX7 yX7_nextOf yX7_nextOf, Cond.code yX7_nextOf cX7_nextOf 2 (some .int), Cond.methodLink RX7 46 yX4_part, Cond.instanceMethod yX4_part, Cond.selects RX4 yX4_part yX4_part, Cond.initialized RX4, Cond.code yX4_part cX4_part 4 (some .int)]
def wsX8_racer_r7 : List Cond := [Cond.fieldLink RX4 18 "LitmusHall$Program" "parts" "[I", Cond.methodLink RX4 31 yX4_partsAt, Cond.static yX4_partsAt, Cond.code yX4_partsAt cX4_partsAt 2 (some .int), Cond.methodLink RX7 50 yX7_waits, Cond.static yX7_waits, Cond.code yX7_waits cX7_waits 1 (some .boolean), Cond.methodLink RX7 54 yX7_isLocked, Cond.static yX7_isLocked, Cond.code yX7_isLocked cX7_isLocked 1 (some .boolean), Cond.methodLink RX1 89 yX7_move, Cond.instanceMethod yX7_move, Cond.selects RX7 yX7_move yX7_move, Cond.code yX7_move cX7_move 8 none, Cond.fieldLink RX7 61 "LitmusHall$Program" "parts" "[I", Cond.methodLink RX7 57 yX7_letGo, Cond.instanceMethod yX7_letGo, Cond.selects RX7 yX7_letGo yX7_letGo, Cond.code yX7_letGo cX7_letGo 5 none, Cond.constant RX7 89 (-524161), Cond.methodLink RX7 86 yX7_rowCell, Cond.instanceMethod yX7_rowCell, Cond.selects RX7 yX7_rowCell yX7_rowCell, Cond.code yX7_rowCell cX7_rowCell 3 (some .int)]
def wsX8_racer_r8 : List Cond := [Cond.methodLink RX7 64 yX4_partsAt, Cond.methodLink RX7 68 yX7_seen, Cond.instanceMethod yX7_seen, Cond.selects RX7 yX7_seen yX7_seen, Cond.code yX7_seen cX7_seen 4 (some .int), Cond.methodLink RX7 90 yX7_rowInt, Cond.instanceMethod yX7_rowInt, Cond.selects RX7 yX7_rowInt yX7_rowInt, Cond.code yX7_rowInt cX7_rowInt 3 (some .int), Cond.methodLink RX7 71 yX7_valueOf, Cond.instanceMethod yX7_valueOf, Cond.selects RX7 yX7_valueOf yX7_valueOf, Cond.code yX7_valueOf cX7_valueOf 5 (some .int), Cond.methodLink RX7 75 yX7_put, Cond.instanceMethod yX7_put, Cond.selects RX7 yX7_put yX7_put, Cond.code yX7_put cX7_put 6 none, Cond.methodLink RX7 79 yX7_forgetStored, Cond.instanceMethod yX7_forgetStored, Cond.selects RX7 yX7_forgetStored yX7_forgetStored, Cond.code yX7_forgetStored cX7_forgetStored 2 none, Cond.constant RX7 93 (-7864321), Cond.methodLink RX7 82 yX7_lock, Cond.instanceMethod yX7_lock]
def wsX8_racer_r9 : List Cond := [Cond.selects RX7 yX7_lock yX7_lock, Cond.code yX7_lock cX7_lock 11 none, Cond.methodLink RX5 32 yX1_fetch, Cond.methodLink RX5 40 yX5_isRace, Cond.instanceMethod yX5_isRace, Cond.selects RX5 yX5_isRace yX5_isRace, Cond.code yX5_isRace cX5_isRace 6 (some .boolean), Cond.fieldLink RX5 58 "LitmusHall$Program" "cores" "I", Cond.fieldLink RX5 76 "LitmusHall$Race" "loader" "I", Cond.fieldLink RX5 79 "LitmusHall$Race" "writer" "I", Cond.fieldLink RX5 82 "LitmusHall$Race" "cell" "I", Cond.methodLink RX5 63 yX5_loadedCell, Cond.static yX5_loadedCell, Cond.code yX5_loadedCell cX5_loadedCell 5 (some .int), Cond.fieldLink RX5 88 "LitmusHall$Program" "lengths" "[I", Cond.methodLink RX5 85 yX7_nextOf, Cond.methodLink RX5 91 yX4_part, Cond.methodLink RX5 67 yX7_storedTo, Cond.instanceMethod yX7_storedTo, Cond.selects RX7 yX7_storedTo yX7_storedTo, Cond.code yX7_storedTo cX7_storedTo 2 (some .int), Cond.methodLink RX5 72 yX5_writes, Cond.static yX5_writes, Cond.code yX5_writes cX5_writes 6 (some .boolean)]
def wsX8_racer_r10 : List Cond := [Cond.methodLink RX5 95 yX7_isLocked, Cond.methodLink RX5 44 yX1_pathTo, Cond.instanceMethod yX1_pathTo, Cond.selects RX1 yX1_pathTo yX1_pathTo, Cond.code yX1_pathTo cX1_pathTo 6 (some .int), Cond.methodLink RX8 178 yX5_tell, Cond.instanceMethod yX5_tell, Cond.selects RX5 yX5_tell yX5_tell, Cond.code yX5_tell cX5_tell 3 (some .int)]
def wsX8_racer : List Cond := .code yX8_racer cX8_racer 2 (some .int) :: ((wsX8_racer_r1 ++ (wsX8_racer_r2 ++ (wsX8_racer_r3 ++ (wsX8_racer_r4 ++ (wsX8_racer_r5 ++ (wsX8_racer_r6 ++ (wsX8_racer_r7 ++ (wsX8_racer_r8 ++ (wsX8_racer_r9 ++ wsX8_racer_r10))))))))) ++ wsX80 ++ wsX50 ++ wsX10 ++ wsX70 ++ wsX40)
def wsX8_cure_r1 : List Cond := [Cond.fieldLink RX8 79 "LitmusHall" "loaded" "Z", Cond.fieldLink RX8 58 "LitmusHall" "theCure" "LLitmusHall$Cure;", Cond.fieldLink RX8 27 "LitmusHall" "program" "LLitmusHall$Program;", Cond.methodLink RX8 149 yX8_found, Cond.instanceMethod yX8_found, Cond.selects RX8 yX8_found yX8_found, Cond.initialized RX8, Cond.code yX8_found cX8_found 4 (some (.object "LitmusHall$Findings")), Cond.fieldLink RX8 41 "LitmusHall" "withRows" "LLitmusHall$Findings;", Cond.fieldLink RX8 45 "LitmusHall" "withoutRows" "LLitmusHall$Findings;", Cond.fieldLink RX8 89 "LitmusHall$Findings" "known" "Z", Cond.methodLink RX8 181 yX8_explorerAtHand, Cond.instanceMethod yX8_explorerAtHand, Cond.selects RX8 yX8_explorerAtHand yX8_explorerAtHand, Cond.code yX8_explorerAtHand cX8_explorerAtHand 1 (some (.object "LitmusHall$Explorer")), Cond.fieldLink RX8 227 "LitmusHall" "explorer" "LLitmusHall$Explorer;", Cond.classLink RX8 219 RX1, Cond.instantiable RX1 10, Cond.initialized RX1, Cond.instanceMethod yX1_init, Cond.code yX1_init cX1_init 1 none, Cond.methodLink RX1 7 objectInit, Cond.instanceMethod objectInit, Cond.code objectInit ⟨#[0xb1]⟩ 1 none]
def wsX8_cure_r2 : List Cond := [Cond.arrayClass .int, Cond.fieldLink RX1 13 "LitmusHall$Explorer" "ends" "[I", Cond.fieldLink RX1 17 "LitmusHall$Explorer" "path" "[I", Cond.classLink RX1 3 RX7, Cond.instantiable RX7 1, Cond.initialized RX7, Cond.fieldLink RX1 21 "LitmusHall$Explorer" "state" "LLitmusHall$State;", Cond.fieldLink RX1 25 "LitmusHall$Explorer" "moved" "LLitmusHall$State;", Cond.fieldLink RX1 28 "LitmusHall$Explorer" "width" "I", Cond.fieldLink RX1 32 "LitmusHall$Explorer" "rows" "[I", Cond.fieldLink RX1 35 "LitmusHall$Explorer" "slots" "[I", Cond.fieldLink RX1 38 "LitmusHall$Explorer" "came" "[I", Cond.instanceMethod yX7_init, Cond.code yX7_init cX7_init 1 none, Cond.methodLink RX7 5 objectInit, Cond.fieldLink RX7 11 "LitmusHall$State" "words" "[I", Cond.methodLink RX8 218 yX1_explore, Cond.instanceMethod yX1_explore, Cond.selects RX1 yX1_explore yX1_explore, Cond.code yX1_explore cX1_explore 5 (some .boolean), Cond.fieldLink RX1 47 "LitmusHall$Explorer" "size" "I", Cond.fieldLink RX1 50 "LitmusHall$Explorer" "endSize" "I", Cond.fieldLink RX1 61 "LitmusHall$State" "words" "[I", Cond.methodLink RX1 83 arraycopyName]
def wsX8_cure_r3 : List Cond := [Cond.native arraycopyName, Cond.static arraycopyName, Cond.initialized "java/lang/System", Cond.methodLink RX1 41 yJ7_fill_53178, Cond.static yJ7_fill_53178, Cond.initialized RJ7, Cond.code yJ7_fill_53178 cJ7_fill_53178 4 none, Cond.methodLink RX1 53 yX7_widthOf, Cond.static yX7_widthOf, Cond.code yX7_widthOf cX7_widthOf 2 (some .int), Cond.fieldLink RX7 15 "LitmusHall$Program" "cores" "I", Cond.methodLink RX1 57 yX7_start, Cond.instanceMethod yX7_start, Cond.selects RX7 yX7_start yX7_start, Cond.code yX7_start cX7_start 2 none, Cond.fieldLink RX7 27 "LitmusHall$Program" "cells" "[I", Cond.methodLink RX7 30 arraycopyName, Cond.methodLink RX7 21 yJ7_fill_53178, Cond.methodLink RX1 64 yX1_keep, Cond.instanceMethod yX1_keep, Cond.selects RX1 yX1_keep yX1_keep, Cond.code yX1_keep cX1_keep 7 (some .boolean), Cond.methodLink RX1 93 yX1_hashOf, Cond.instanceMethod yX1_hashOf]
def wsX8_cure_r4 : List Cond := [Cond.selects RX1 yX1_hashOf yX1_hashOf, Cond.code yX1_hashOf cX1_hashOf 4 (some .int), Cond.constant RX1 105 (-2048144789), Cond.methodLink RX1 97 yX1_add, Cond.instanceMethod yX1_add, Cond.selects RX1 yX1_add yX1_add, Cond.code yX1_add cX1_add 5 (some .boolean), Cond.constant RX1 106 (102000), Cond.methodLink RX1 107 Lib.Math.min.name, Cond.static Lib.Math.min.name, Cond.initialized "java/lang/Math", Cond.code Lib.Math.min.name Lib.Math.min.code 2 (some .int), Cond.methodLink RX1 113 yJ7_copyOf_59c91, Cond.static yJ7_copyOf_59c91, Cond.code yJ7_copyOf_59c91 cJ7_copyOf_59c91 3 (some (.array .int)), Cond.methodLink RJ7 316 ⟨"[I", "clone", "()Ljava/lang/Object;"⟩, Cond.sameMethod "[I" "java/lang/Object" "clone" "()Ljava/lang/Object;", Cond.native ⟨"java/lang/Object", "clone", "()Ljava/lang/Object;"⟩, Cond.instanceMethod ⟨"java/lang/Object", "clone", "()Ljava/lang/Object;"⟩, Cond.selects "[I" ⟨"[I", "clone", "()Ljava/lang/Object;"⟩ ⟨"java/lang/Object", "clone", "()Ljava/lang/Object;"⟩, Cond.classLink RJ7 317 "[I", Cond.methodLink RJ7 304 Lib.Math.min.name, Cond.methodLink RJ7 150 arraycopyName, Cond.methodLink RX1 101 yX1_isSame]
def wsX8_cure_r5 : List Cond := [Cond.instanceMethod yX1_isSame, Cond.selects RX1 yX1_isSame yX1_isSame, Cond.code yX1_isSame cX1_isSame 5 (some .boolean), Cond.methodLink RX1 68 yX1_fetch, Cond.instanceMethod yX1_fetch, Cond.selects RX1 yX1_fetch yX1_fetch, Cond.code yX1_fetch cX1_fetch 2 none, Cond.methodLink RX1 72 yX7_hasEnded, Cond.instanceMethod yX7_hasEnded, Cond.selects RX7 yX7_hasEnded yX7_hasEnded, Cond.code yX7_hasEnded cX7_hasEnded 3 (some .boolean), Cond.fieldLink RX7 36 "LitmusHall$Program" "lengths" "[I", Cond.methodLink RX1 76 yX1_addEnd, Cond.instanceMethod yX1_addEnd, Cond.selects RX1 yX1_addEnd yX1_addEnd, Cond.code yX1_addEnd cX1_addEnd 6 none, Cond.methodLink RX1 117 yX1_isBefore, Cond.instanceMethod yX1_isBefore, Cond.selects RX1 yX1_isBefore yX1_isBefore, Cond.code yX1_isBefore cX1_isBefore 6 (some .boolean), Cond.methodLink RX1 79 yX7_can, Cond.instanceMethod yX7_can, Cond.selects RX7 yX7_can yX7_can, Cond.code yX7_can cX7_can 4 (some .boolean)]
def wsX8_cure_r6 : List Cond := [Cond.methodLink RX7 39 yX7_rowSize, Cond.instanceMethod yX7_rowSize, Cond.selects RX7 yX7_rowSize yX7_rowSize, Cond.code yX7_rowSize cX7_rowSize 2 (some .int), Cond.methodLink RX7 43 yX7_nextOf, Cond.instanceMethod yX7_nextOf, Cond.selects RX7 yX7_nextOf yX7_nextOf, Cond.code yX7_nextOf cX7_nextOf 2 (some .int), Cond.methodLink RX7 46 yX4_part, Cond.instanceMethod yX4_part, Cond.selects RX4 yX4_part yX4_part, Cond.initialized RX4, Cond.code yX4_part cX4_part 4 (some .int), Cond.fieldLink RX4 18 "LitmusHall$Program" "parts" "[I", Cond.methodLink RX4 31 yX4_partsAt, Cond.static yX4_partsAt, Cond.code yX4_partsAt cX4_partsAt 2 (some .int), Cond.methodLink RX7 50 yX7_waits, Cond.static yX7_waits, Cond.code yX7_waits cX7_waits 1 (some .boolean), Cond.methodLink RX7 54 yX7_isLocked, Cond.static yX7_isLocked, Cond.code yX7_isLocked cX7_isLocked 1 (some .boolean), Cond.methodLink RX1 89 yX7_move]
def wsX8_cure_r7 : List Cond := [Cond.instanceMethod yX7_move, Cond.selects RX7 yX7_move yX7_move, Cond.code yX7_move cX7_move 8 none, Cond.fieldLink RX7 61 "LitmusHall$Program" "parts" "[I", Cond.methodLink RX7 57 yX7_letGo, Cond.instanceMethod yX7_letGo, Cond.selects RX7 yX7_letGo yX7_letGo, Cond.code yX7_letGo cX7_letGo 5 none, Cond.constant RX7 89 (-524161), Cond.methodLink RX7 86 yX7_rowCell, Cond.instanceMethod yX7_rowCell, Cond.selects RX7 yX7_rowCell yX7_rowCell, Cond.code yX7_rowCell cX7_rowCell 3 (some .int), Cond.methodLink RX7 64 yX4_partsAt, Cond.methodLink RX7 68 yX7_seen, Cond.instanceMethod yX7_seen, Cond.selects RX7 yX7_seen yX7_seen, Cond.code yX7_seen cX7_seen 4 (some .int), Cond.methodLink RX7 90 yX7_rowInt, Cond.instanceMethod yX7_rowInt, Cond.selects RX7 yX7_rowInt yX7_rowInt, Cond.code yX7_rowInt cX7_rowInt 3 (some .int), Cond.methodLink RX7 71 yX7_valueOf, Cond.instanceMethod yX7_valueOf]
def wsX8_cure_r8 : List Cond := [Cond.selects RX7 yX7_valueOf yX7_valueOf, Cond.code yX7_valueOf cX7_valueOf 5 (some .int), Cond.methodLink RX7 75 yX7_put, Cond.instanceMethod yX7_put, Cond.selects RX7 yX7_put yX7_put, Cond.code yX7_put cX7_put 6 none, Cond.methodLink RX7 79 yX7_forgetStored, Cond.instanceMethod yX7_forgetStored, Cond.selects RX7 yX7_forgetStored yX7_forgetStored, Cond.code yX7_forgetStored cX7_forgetStored 2 none, Cond.constant RX7 93 (-7864321), Cond.methodLink RX7 82 yX7_lock, Cond.instanceMethod yX7_lock, Cond.selects RX7 yX7_lock yX7_lock, Cond.code yX7_lock cX7_lock 11 none, Cond.methodLink RX8 223 yX2_fill, Cond.instanceMethod yX2_fill, Cond.selects RX2 yX2_fill yX2_fill, Cond.initialized RX2, Cond.code yX2_fill cX2_fill 4 none, Cond.fieldLink RX2 15 "LitmusHall$Findings" "known" "Z", Cond.fieldLink RX2 19 "LitmusHall$Findings" "full" "Z", Cond.fieldLink RX2 22 "LitmusHall$Explorer" "size" "I", Cond.fieldLink RX2 28 "LitmusHall$Findings" "states" "I"]
def wsX8_cure_r9 : List Cond := [Cond.fieldLink RX2 31 "LitmusHall$Explorer" "endSize" "I", Cond.fieldLink RX2 34 "LitmusHall$Findings" "size" "I", Cond.fieldLink RX2 11 "LitmusHall$Findings" "records" "[I", Cond.methodLink RX2 35 Lib.Math.min.name, Cond.methodLink RX2 41 yX2_record, Cond.instanceMethod yX2_record, Cond.selects RX2 yX2_record yX2_record, Cond.code yX2_record cX2_record 8 none, Cond.fieldLink RX2 45 "LitmusHall$Explorer" "ends" "[I", Cond.fieldLink RX2 61 "LitmusHall$Explorer" "path" "[I", Cond.methodLink RX2 48 yX1_intOf, Cond.instanceMethod yX1_intOf, Cond.selects RX1 yX1_intOf yX1_intOf, Cond.code yX1_intOf cX1_intOf 3 (some .int), Cond.methodLink RX2 51 yJ7_fill_fda19, Cond.static yJ7_fill_fda19, Cond.code yJ7_fill_fda19 cJ7_fill_fda19 5 none, Cond.methodLink RJ7 13 yJ7_rangeCheck_23922, Cond.static yJ7_rangeCheck_23922, Cond.code yJ7_rangeCheck_23922 cJ7_rangeCheck_23922 3 none, Cond.methodLink RX2 57 yX1_pathTo, Cond.instanceMethod yX1_pathTo, Cond.selects RX1 yX1_pathTo yX1_pathTo, Cond.code yX1_pathTo cX1_pathTo 6 (some .int)]
def wsX8_cure_r10 : List Cond := [Cond.methodLink RX8 189 yX0_least, Cond.instanceMethod yX0_least, Cond.selects RX0 yX0_least yX0_least, Cond.initialized RX0, Cond.code yX0_least cX0_least 6 (some .int), Cond.fieldLink RX0 29 "LitmusHall$Cure" "lookedSizes" "I", Cond.fieldLink RX0 18 "LitmusHall$Cure" "answer" "I", Cond.fieldLink RX0 32 "LitmusHall$Findings" "full" "Z", Cond.fieldLink RX0 42 "LitmusHall$Cure" "toldSize" "I", Cond.fieldLink RX0 22 "LitmusHall$Cure" "looked" "[I", Cond.fieldLink RX0 26 "LitmusHall$Cure" "told" "[I", Cond.methodLink RX0 45 arraycopyName, Cond.methodLink RX0 38 yX0_lookAtSize, Cond.instanceMethod yX0_lookAtSize, Cond.selects RX0 yX0_lookAtSize yX0_lookAtSize, Cond.code yX0_lookAtSize cX0_lookAtSize 10 (some .int), Cond.fieldLink RX0 12 "LitmusHall$Cure" "fenced" "LLitmusHall$Program;", Cond.methodLink RX0 51 yX4_placesInAll, Cond.instanceMethod yX4_placesInAll, Cond.selects RX4 yX4_placesInAll yX4_placesInAll, Cond.code yX4_placesInAll cX4_placesInAll 3 (some .int), Cond.fieldLink RX4 21 "LitmusHall$Program" "cores" "I", Cond.fieldLink RX4 9 "LitmusHall$Program" "lengths" "[I", Cond.methodLink RX4 35 Lib.Math.max.name]
def wsX8_cure_r11 : List Cond := [Cond.static Lib.Math.max.name, Cond.code Lib.Math.max.name Lib.Math.max.code 2 (some .int), Cond.methodLink RX0 55 yX4_placeOf, Cond.instanceMethod yX4_placeOf, Cond.selects RX4 yX4_placeOf yX4_placeOf, Cond.code yX4_placeOf cX4_placeOf 5 (some .int), Cond.methodLink RX0 59 yX4_becomeFenced, Cond.instanceMethod yX4_becomeFenced, Cond.selects RX4 yX4_becomeFenced yX4_becomeFenced, Cond.code yX4_becomeFenced cX4_becomeFenced 9 none, Cond.fieldLink RX4 15 "LitmusHall$Program" "cells" "[I", Cond.methodLink RX4 43 arraycopyName, Cond.methodLink RX4 40 yX4_clear, Cond.instanceMethod yX4_clear, Cond.selects RX4 yX4_clear yX4_clear, Cond.code yX4_clear cX4_clear 1 none, Cond.methodLink RX4 25 yJ7_fill_53178, Cond.methodLink RX4 49 yX4_hasRoom, Cond.instanceMethod yX4_hasRoom, Cond.selects RX4 yX4_hasRoom yX4_hasRoom, Cond.code yX4_hasRoom cX4_hasRoom 2 (some .boolean), Cond.methodLink RX4 53 yX4_addBlank, Cond.instanceMethod yX4_addBlank, Cond.selects RX4 yX4_addBlank yX4_addBlank]
def wsX8_cure_r12 : List Cond := [Cond.code yX4_addBlank cX4_addBlank 4 (some .int), Cond.methodLink RX4 56 yX4_part, Cond.methodLink RX4 60 yX4_within, Cond.static yX4_within, Cond.code yX4_within cX4_within 3 (some .int), Cond.methodLink RX4 63 yX4_copyIns, Cond.instanceMethod yX4_copyIns, Cond.selects RX4 yX4_copyIns yX4_copyIns, Cond.code yX4_copyIns cX4_copyIns 7 none, Cond.methodLink RX0 63 yX1_explore, Cond.methodLink RX0 69 yX2_isSame, Cond.instanceMethod yX2_isSame, Cond.selects RX2 yX2_isSame yX2_isSame, Cond.code yX2_isSame cX2_isSame 4 (some .boolean), Cond.methodLink RX2 68 yX2_intOf, Cond.instanceMethod yX2_intOf, Cond.selects RX2 yX2_intOf yX2_intOf, Cond.code yX2_intOf cX2_intOf 3 (some .int)]
def wsX8_cure : List Cond := .code yX8_cure cX8_cure 3 (some .int) :: ((wsX8_cure_r1 ++ (wsX8_cure_r2 ++ (wsX8_cure_r3 ++ (wsX8_cure_r4 ++ (wsX8_cure_r5 ++ (wsX8_cure_r6 ++ (wsX8_cure_r7 ++ (wsX8_cure_r8 ++ (wsX8_cure_r9 ++ (wsX8_cure_r10 ++ (wsX8_cure_r11 ++ wsX8_cure_r12))))))))))) ++ wsX80 ++ wsX20 ++ wsX10 ++ wsX70 ++ wsX40 ++ wsX00)
def wsX8_cured : List Cond := .code yX8_cured cX8_cured 2 (some .int) :: ([.fieldLink RX8 58 "LitmusHall" "theCure" "LLitmusHall$Cure;", .methodLink RX8 193 yX0_toldPlace, .instanceMethod yX0_toldPlace, .selects RX0 yX0_toldPlace yX0_toldPlace, .initialized RX0, .code yX0_toldPlace cX0_toldPlace 2 (some .int), .fieldLink RX0 42 "LitmusHall$Cure" "toldSize" "I", .fieldLink RX0 26 "LitmusHall$Cure" "told" "[I"] ++ wsX80 ++ wsX00)
def wsX8_countOfProgram_r1 : List Cond := [Cond.fieldLink RX8 27 "LitmusHall" "program" "LLitmusHall$Program;", Cond.fieldLink RX8 108 "LitmusHall$Program" "cores" "I", Cond.fieldLink RX8 34 "LitmusHall" "machine" "LLitmusHall$Machine;", Cond.fieldLink RX8 86 "LitmusHall$Machine" "stands" "Z", Cond.fieldLink RX8 209 "LitmusHall$Machine" "steps" "I", Cond.fieldLink RX8 126 "LitmusHall$Machine" "state" "LLitmusHall$State;", Cond.methodLink RX8 199 yX4_insInAll, Cond.instanceMethod yX4_insInAll, Cond.selects RX4 yX4_insInAll yX4_insInAll, Cond.initialized RX4, Cond.code yX4_insInAll cX4_insInAll 3 (some .int), Cond.fieldLink RX4 21 "LitmusHall$Program" "cores" "I", Cond.fieldLink RX4 9 "LitmusHall$Program" "lengths" "[I", Cond.methodLink RX8 149 yX8_found, Cond.instanceMethod yX8_found, Cond.selects RX8 yX8_found yX8_found, Cond.initialized RX8, Cond.code yX8_found cX8_found 4 (some (.object "LitmusHall$Findings")), Cond.fieldLink RX8 41 "LitmusHall" "withRows" "LLitmusHall$Findings;", Cond.fieldLink RX8 45 "LitmusHall" "withoutRows" "LLitmusHall$Findings;", Cond.fieldLink RX8 89 "LitmusHall$Findings" "known" "Z", Cond.methodLink RX8 181 yX8_explorerAtHand, Cond.instanceMethod yX8_explorerAtHand, Cond.selects RX8 yX8_explorerAtHand yX8_explorerAtHand]
def wsX8_countOfProgram_r2 : List Cond := [Cond.code yX8_explorerAtHand cX8_explorerAtHand 1 (some (.object "LitmusHall$Explorer")), Cond.fieldLink RX8 227 "LitmusHall" "explorer" "LLitmusHall$Explorer;", Cond.classLink RX8 219 RX1, Cond.instantiable RX1 10, Cond.initialized RX1, Cond.instanceMethod yX1_init, Cond.code yX1_init cX1_init 1 none, Cond.methodLink RX1 7 objectInit, Cond.instanceMethod objectInit, Cond.code objectInit ⟨#[0xb1]⟩ 1 none, Cond.arrayClass .int, Cond.fieldLink RX1 13 "LitmusHall$Explorer" "ends" "[I", Cond.fieldLink RX1 17 "LitmusHall$Explorer" "path" "[I", Cond.classLink RX1 3 RX7, Cond.instantiable RX7 1, Cond.initialized RX7, Cond.fieldLink RX1 21 "LitmusHall$Explorer" "state" "LLitmusHall$State;", Cond.fieldLink RX1 25 "LitmusHall$Explorer" "moved" "LLitmusHall$State;", Cond.fieldLink RX1 28 "LitmusHall$Explorer" "width" "I", Cond.fieldLink RX1 32 "LitmusHall$Explorer" "rows" "[I", Cond.fieldLink RX1 35 "LitmusHall$Explorer" "slots" "[I", Cond.fieldLink RX1 38 "LitmusHall$Explorer" "came" "[I", Cond.instanceMethod yX7_init, Cond.code yX7_init cX7_init 1 none]
def wsX8_countOfProgram_r3 : List Cond := [Cond.methodLink RX7 5 objectInit, Cond.fieldLink RX7 11 "LitmusHall$State" "words" "[I", Cond.methodLink RX8 218 yX1_explore, Cond.instanceMethod yX1_explore, Cond.selects RX1 yX1_explore yX1_explore, Cond.code yX1_explore cX1_explore 5 (some .boolean), Cond.fieldLink RX1 47 "LitmusHall$Explorer" "size" "I", Cond.fieldLink RX1 50 "LitmusHall$Explorer" "endSize" "I", Cond.fieldLink RX1 61 "LitmusHall$State" "words" "[I", Cond.methodLink RX1 83 arraycopyName, Cond.native arraycopyName, Cond.static arraycopyName, Cond.initialized "java/lang/System", Cond.methodLink RX1 41 yJ7_fill_53178, Cond.static yJ7_fill_53178, Cond.initialized RJ7, Cond.code yJ7_fill_53178 cJ7_fill_53178 4 none, Cond.methodLink RX1 53 yX7_widthOf, Cond.static yX7_widthOf, Cond.code yX7_widthOf cX7_widthOf 2 (some .int), Cond.fieldLink RX7 15 "LitmusHall$Program" "cores" "I", Cond.methodLink RX1 57 yX7_start, Cond.instanceMethod yX7_start, Cond.selects RX7 yX7_start yX7_start]
def wsX8_countOfProgram_r4 : List Cond := [Cond.code yX7_start cX7_start 2 none, Cond.fieldLink RX7 27 "LitmusHall$Program" "cells" "[I", Cond.methodLink RX7 30 arraycopyName, Cond.methodLink RX7 21 yJ7_fill_53178, Cond.methodLink RX1 64 yX1_keep, Cond.instanceMethod yX1_keep, Cond.selects RX1 yX1_keep yX1_keep, Cond.code yX1_keep cX1_keep 7 (some .boolean), Cond.methodLink RX1 93 yX1_hashOf, Cond.instanceMethod yX1_hashOf, Cond.selects RX1 yX1_hashOf yX1_hashOf, Cond.code yX1_hashOf cX1_hashOf 4 (some .int), Cond.constant RX1 105 (-2048144789), Cond.methodLink RX1 97 yX1_add, Cond.instanceMethod yX1_add, Cond.selects RX1 yX1_add yX1_add, Cond.code yX1_add cX1_add 5 (some .boolean), Cond.constant RX1 106 (102000), Cond.methodLink RX1 107 Lib.Math.min.name, Cond.static Lib.Math.min.name, Cond.initialized "java/lang/Math", Cond.code Lib.Math.min.name Lib.Math.min.code 2 (some .int), Cond.methodLink RX1 113 yJ7_copyOf_59c91, Cond.static yJ7_copyOf_59c91]
def wsX8_countOfProgram_r5 : List Cond := [Cond.code yJ7_copyOf_59c91 cJ7_copyOf_59c91 3 (some (.array .int)), Cond.methodLink RJ7 316 ⟨"[I", "clone", "()Ljava/lang/Object;"⟩, Cond.sameMethod "[I" "java/lang/Object" "clone" "()Ljava/lang/Object;", Cond.native ⟨"java/lang/Object", "clone", "()Ljava/lang/Object;"⟩, Cond.instanceMethod ⟨"java/lang/Object", "clone", "()Ljava/lang/Object;"⟩, Cond.selects "[I" ⟨"[I", "clone", "()Ljava/lang/Object;"⟩ ⟨"java/lang/Object", "clone", "()Ljava/lang/Object;"⟩, Cond.classLink RJ7 317 "[I", Cond.methodLink RJ7 304 Lib.Math.min.name, Cond.methodLink RJ7 150 arraycopyName, Cond.methodLink RX1 101 yX1_isSame, Cond.instanceMethod yX1_isSame, Cond.selects RX1 yX1_isSame yX1_isSame, Cond.code yX1_isSame cX1_isSame 5 (some .boolean), Cond.methodLink RX1 68 yX1_fetch, Cond.instanceMethod yX1_fetch, Cond.selects RX1 yX1_fetch yX1_fetch, Cond.code yX1_fetch cX1_fetch 2 none, Cond.methodLink RX1 72 yX7_hasEnded, Cond.instanceMethod yX7_hasEnded, Cond.selects RX7 yX7_hasEnded yX7_hasEnded, Cond.code yX7_hasEnded cX7_hasEnded 3 (some .boolean), Cond.fieldLink RX7 36 "LitmusHall$Program" "lengths" "[I", Cond.methodLink RX1 76 yX1_addEnd, Cond.instanceMethod yX1_addEnd]
def wsX8_countOfProgram_r6 : List Cond := [Cond.selects RX1 yX1_addEnd yX1_addEnd, Cond.code yX1_addEnd cX1_addEnd 6 none, Cond.methodLink RX1 117 yX1_isBefore, Cond.instanceMethod yX1_isBefore, Cond.selects RX1 yX1_isBefore yX1_isBefore, Cond.code yX1_isBefore cX1_isBefore 6 (some .boolean), Cond.methodLink RX1 79 yX7_can, Cond.instanceMethod yX7_can, Cond.selects RX7 yX7_can yX7_can, Cond.code yX7_can cX7_can 4 (some .boolean), Cond.methodLink RX7 39 yX7_rowSize, Cond.instanceMethod yX7_rowSize, Cond.selects RX7 yX7_rowSize yX7_rowSize, Cond.code yX7_rowSize cX7_rowSize 2 (some .int), Cond.methodLink RX7 43 yX7_nextOf, Cond.instanceMethod yX7_nextOf, Cond.selects RX7 yX7_nextOf yX7_nextOf, Cond.code yX7_nextOf cX7_nextOf 2 (some .int), Cond.methodLink RX7 46 yX4_part, Cond.instanceMethod yX4_part, Cond.selects RX4 yX4_part yX4_part, Cond.code yX4_part cX4_part 4 (some .int), Cond.fieldLink RX4 18 "LitmusHall$Program" "parts" "[I", Cond.methodLink RX4 31 yX4_partsAt]
def wsX8_countOfProgram_r7 : List Cond := [Cond.static yX4_partsAt, Cond.code yX4_partsAt cX4_partsAt 2 (some .int), Cond.methodLink RX7 50 yX7_waits, Cond.static yX7_waits, Cond.code yX7_waits cX7_waits 1 (some .boolean), Cond.methodLink RX7 54 yX7_isLocked, Cond.static yX7_isLocked, Cond.code yX7_isLocked cX7_isLocked 1 (some .boolean), Cond.methodLink RX1 89 yX7_move, Cond.instanceMethod yX7_move, Cond.selects RX7 yX7_move yX7_move, Cond.code yX7_move cX7_move 8 none, Cond.fieldLink RX7 61 "LitmusHall$Program" "parts" "[I", Cond.methodLink RX7 57 yX7_letGo, Cond.instanceMethod yX7_letGo, Cond.selects RX7 yX7_letGo yX7_letGo, Cond.code yX7_letGo cX7_letGo 5 none, Cond.constant RX7 89 (-524161), Cond.methodLink RX7 86 yX7_rowCell, Cond.instanceMethod yX7_rowCell, Cond.selects RX7 yX7_rowCell yX7_rowCell, Cond.code yX7_rowCell cX7_rowCell 3 (some .int), Cond.methodLink RX7 64 yX4_partsAt, Cond.methodLink RX7 68 yX7_seen]
def wsX8_countOfProgram_r8 : List Cond := [Cond.instanceMethod yX7_seen, Cond.selects RX7 yX7_seen yX7_seen, Cond.code yX7_seen cX7_seen 4 (some .int), Cond.methodLink RX7 90 yX7_rowInt, Cond.instanceMethod yX7_rowInt, Cond.selects RX7 yX7_rowInt yX7_rowInt, Cond.code yX7_rowInt cX7_rowInt 3 (some .int), Cond.methodLink RX7 71 yX7_valueOf, Cond.instanceMethod yX7_valueOf, Cond.selects RX7 yX7_valueOf yX7_valueOf, Cond.code yX7_valueOf cX7_valueOf 5 (some .int), Cond.methodLink RX7 75 yX7_put, Cond.instanceMethod yX7_put, Cond.selects RX7 yX7_put yX7_put, Cond.code yX7_put cX7_put 6 none, Cond.methodLink RX7 79 yX7_forgetStored, Cond.instanceMethod yX7_forgetStored, Cond.selects RX7 yX7_forgetStored yX7_forgetStored, Cond.code yX7_forgetStored cX7_forgetStored 2 none, Cond.constant RX7 93 (-7864321), Cond.methodLink RX7 82 yX7_lock, Cond.instanceMethod yX7_lock, Cond.selects RX7 yX7_lock yX7_lock, Cond.code yX7_lock cX7_lock 11 none]
def wsX8_countOfProgram_r9 : List Cond := [Cond.methodLink RX8 223 yX2_fill, Cond.instanceMethod yX2_fill, Cond.selects RX2 yX2_fill yX2_fill, Cond.initialized RX2, Cond.code yX2_fill cX2_fill 4 none, Cond.fieldLink RX2 15 "LitmusHall$Findings" "known" "Z", Cond.fieldLink RX2 19 "LitmusHall$Findings" "full" "Z", Cond.fieldLink RX2 22 "LitmusHall$Explorer" "size" "I", Cond.fieldLink RX2 28 "LitmusHall$Findings" "states" "I", Cond.fieldLink RX2 31 "LitmusHall$Explorer" "endSize" "I", Cond.fieldLink RX2 34 "LitmusHall$Findings" "size" "I", Cond.fieldLink RX2 11 "LitmusHall$Findings" "records" "[I", Cond.methodLink RX2 35 Lib.Math.min.name, Cond.methodLink RX2 41 yX2_record, Cond.instanceMethod yX2_record, Cond.selects RX2 yX2_record yX2_record, Cond.code yX2_record cX2_record 8 none, Cond.fieldLink RX2 45 "LitmusHall$Explorer" "ends" "[I", Cond.fieldLink RX2 61 "LitmusHall$Explorer" "path" "[I", Cond.methodLink RX2 48 yX1_intOf, Cond.instanceMethod yX1_intOf, Cond.selects RX1 yX1_intOf yX1_intOf, Cond.code yX1_intOf cX1_intOf 3 (some .int), Cond.methodLink RX2 51 yJ7_fill_fda19]
def wsX8_countOfProgram_r10 : List Cond := [Cond.static yJ7_fill_fda19, Cond.code yJ7_fill_fda19 cJ7_fill_fda19 5 none, Cond.methodLink RJ7 13 yJ7_rangeCheck_23922, Cond.static yJ7_rangeCheck_23922, Cond.code yJ7_rangeCheck_23922 cJ7_rangeCheck_23922 3 none, Cond.methodLink RX2 57 yX1_pathTo, Cond.instanceMethod yX1_pathTo, Cond.selects RX1 yX1_pathTo yX1_pathTo, Cond.code yX1_pathTo cX1_pathTo 6 (some .int), Cond.methodLink RX8 203 yX2_statesOrNone, Cond.instanceMethod yX2_statesOrNone, Cond.selects RX2 yX2_statesOrNone yX2_statesOrNone, Cond.code yX2_statesOrNone cX2_statesOrNone 1 (some .int), Cond.methodLink RX8 206 yX2_sizeOrNone, Cond.instanceMethod yX2_sizeOrNone, Cond.selects RX2 yX2_sizeOrNone yX2_sizeOrNone, Cond.code yX2_sizeOrNone cX2_sizeOrNone 1 (some .int), Cond.methodLink RX8 212 yX7_hasEnded, Cond.methodLink RX8 215 yX4_placesInAll, Cond.instanceMethod yX4_placesInAll, Cond.selects RX4 yX4_placesInAll yX4_placesInAll, Cond.code yX4_placesInAll cX4_placesInAll 3 (some .int), Cond.methodLink RX4 35 Lib.Math.max.name, Cond.static Lib.Math.max.name]
def wsX8_countOfProgram_r11 : List Cond := [Cond.code Lib.Math.max.name Lib.Math.max.code 2 (some .int)]
def wsX8_countOfProgram : List Cond := .code yX8_countOfProgram cX8_countOfProgram 2 (some .int) :: ((wsX8_countOfProgram_r1 ++ (wsX8_countOfProgram_r2 ++ (wsX8_countOfProgram_r3 ++ (wsX8_countOfProgram_r4 ++ (wsX8_countOfProgram_r5 ++ (wsX8_countOfProgram_r6 ++ (wsX8_countOfProgram_r7 ++ (wsX8_countOfProgram_r8 ++ (wsX8_countOfProgram_r9 ++ (wsX8_countOfProgram_r10 ++ wsX8_countOfProgram_r11)))))))))) ++ wsX80 ++ wsX40 ++ wsX30 ++ wsX20 ++ wsX10 ++ wsX70)
def wsX8_count_r1 : List Cond := [Cond.fieldLink RX8 62 "LitmusHall" "tapeSize" "I", Cond.fieldLink RX8 79 "LitmusHall" "loaded" "Z", Cond.methodLink RX8 196 yX8_countOfProgram, Cond.instanceMethod yX8_countOfProgram, Cond.selects RX8 yX8_countOfProgram yX8_countOfProgram, Cond.initialized RX8, Cond.code yX8_countOfProgram cX8_countOfProgram 2 (some .int), Cond.fieldLink RX8 27 "LitmusHall" "program" "LLitmusHall$Program;", Cond.fieldLink RX8 108 "LitmusHall$Program" "cores" "I", Cond.fieldLink RX8 34 "LitmusHall" "machine" "LLitmusHall$Machine;", Cond.fieldLink RX8 86 "LitmusHall$Machine" "stands" "Z", Cond.fieldLink RX8 209 "LitmusHall$Machine" "steps" "I", Cond.fieldLink RX8 126 "LitmusHall$Machine" "state" "LLitmusHall$State;", Cond.methodLink RX8 199 yX4_insInAll, Cond.instanceMethod yX4_insInAll, Cond.selects RX4 yX4_insInAll yX4_insInAll, Cond.initialized RX4, Cond.code yX4_insInAll cX4_insInAll 3 (some .int), Cond.fieldLink RX4 21 "LitmusHall$Program" "cores" "I", Cond.fieldLink RX4 9 "LitmusHall$Program" "lengths" "[I", Cond.methodLink RX8 149 yX8_found, Cond.instanceMethod yX8_found, Cond.selects RX8 yX8_found yX8_found, Cond.code yX8_found cX8_found 4 (some (.object "LitmusHall$Findings"))]
def wsX8_count_r2 : List Cond := [Cond.fieldLink RX8 41 "LitmusHall" "withRows" "LLitmusHall$Findings;", Cond.fieldLink RX8 45 "LitmusHall" "withoutRows" "LLitmusHall$Findings;", Cond.fieldLink RX8 89 "LitmusHall$Findings" "known" "Z", Cond.methodLink RX8 181 yX8_explorerAtHand, Cond.instanceMethod yX8_explorerAtHand, Cond.selects RX8 yX8_explorerAtHand yX8_explorerAtHand, Cond.code yX8_explorerAtHand cX8_explorerAtHand 1 (some (.object "LitmusHall$Explorer")), Cond.fieldLink RX8 227 "LitmusHall" "explorer" "LLitmusHall$Explorer;", Cond.classLink RX8 219 RX1, Cond.instantiable RX1 10, Cond.initialized RX1, Cond.instanceMethod yX1_init, Cond.code yX1_init cX1_init 1 none, Cond.methodLink RX1 7 objectInit, Cond.instanceMethod objectInit, Cond.code objectInit ⟨#[0xb1]⟩ 1 none, Cond.arrayClass .int, Cond.fieldLink RX1 13 "LitmusHall$Explorer" "ends" "[I", Cond.fieldLink RX1 17 "LitmusHall$Explorer" "path" "[I", Cond.classLink RX1 3 RX7, Cond.instantiable RX7 1, Cond.initialized RX7, Cond.fieldLink RX1 21 "LitmusHall$Explorer" "state" "LLitmusHall$State;", Cond.fieldLink RX1 25 "LitmusHall$Explorer" "moved" "LLitmusHall$State;"]
def wsX8_count_r3 : List Cond := [Cond.fieldLink RX1 28 "LitmusHall$Explorer" "width" "I", Cond.fieldLink RX1 32 "LitmusHall$Explorer" "rows" "[I", Cond.fieldLink RX1 35 "LitmusHall$Explorer" "slots" "[I", Cond.fieldLink RX1 38 "LitmusHall$Explorer" "came" "[I", Cond.instanceMethod yX7_init, Cond.code yX7_init cX7_init 1 none, Cond.methodLink RX7 5 objectInit, Cond.fieldLink RX7 11 "LitmusHall$State" "words" "[I", Cond.methodLink RX8 218 yX1_explore, Cond.instanceMethod yX1_explore, Cond.selects RX1 yX1_explore yX1_explore, Cond.code yX1_explore cX1_explore 5 (some .boolean), Cond.fieldLink RX1 47 "LitmusHall$Explorer" "size" "I", Cond.fieldLink RX1 50 "LitmusHall$Explorer" "endSize" "I", Cond.fieldLink RX1 61 "LitmusHall$State" "words" "[I", Cond.methodLink RX1 83 arraycopyName, Cond.native arraycopyName, Cond.static arraycopyName, Cond.initialized "java/lang/System", Cond.methodLink RX1 41 yJ7_fill_53178, Cond.static yJ7_fill_53178, Cond.initialized RJ7, Cond.code yJ7_fill_53178 cJ7_fill_53178 4 none, Cond.methodLink RX1 53 yX7_widthOf]
def wsX8_count_r4 : List Cond := [Cond.static yX7_widthOf, Cond.code yX7_widthOf cX7_widthOf 2 (some .int), Cond.fieldLink RX7 15 "LitmusHall$Program" "cores" "I", Cond.methodLink RX1 57 yX7_start, Cond.instanceMethod yX7_start, Cond.selects RX7 yX7_start yX7_start, Cond.code yX7_start cX7_start 2 none, Cond.fieldLink RX7 27 "LitmusHall$Program" "cells" "[I", Cond.methodLink RX7 30 arraycopyName, Cond.methodLink RX7 21 yJ7_fill_53178, Cond.methodLink RX1 64 yX1_keep, Cond.instanceMethod yX1_keep, Cond.selects RX1 yX1_keep yX1_keep, Cond.code yX1_keep cX1_keep 7 (some .boolean), Cond.methodLink RX1 93 yX1_hashOf, Cond.instanceMethod yX1_hashOf, Cond.selects RX1 yX1_hashOf yX1_hashOf, Cond.code yX1_hashOf cX1_hashOf 4 (some .int), Cond.constant RX1 105 (-2048144789), Cond.methodLink RX1 97 yX1_add, Cond.instanceMethod yX1_add, Cond.selects RX1 yX1_add yX1_add, Cond.code yX1_add cX1_add 5 (some .boolean), Cond.constant RX1 106 (102000)]
def wsX8_count_r5 : List Cond := [Cond.methodLink RX1 107 Lib.Math.min.name, Cond.static Lib.Math.min.name, Cond.initialized "java/lang/Math", Cond.code Lib.Math.min.name Lib.Math.min.code 2 (some .int), Cond.methodLink RX1 113 yJ7_copyOf_59c91, Cond.static yJ7_copyOf_59c91, Cond.code yJ7_copyOf_59c91 cJ7_copyOf_59c91 3 (some (.array .int)), Cond.methodLink RJ7 316 ⟨"[I", "clone", "()Ljava/lang/Object;"⟩, Cond.sameMethod "[I" "java/lang/Object" "clone" "()Ljava/lang/Object;", Cond.native ⟨"java/lang/Object", "clone", "()Ljava/lang/Object;"⟩, Cond.instanceMethod ⟨"java/lang/Object", "clone", "()Ljava/lang/Object;"⟩, Cond.selects "[I" ⟨"[I", "clone", "()Ljava/lang/Object;"⟩ ⟨"java/lang/Object", "clone", "()Ljava/lang/Object;"⟩, Cond.classLink RJ7 317 "[I", Cond.methodLink RJ7 304 Lib.Math.min.name, Cond.methodLink RJ7 150 arraycopyName, Cond.methodLink RX1 101 yX1_isSame, Cond.instanceMethod yX1_isSame, Cond.selects RX1 yX1_isSame yX1_isSame, Cond.code yX1_isSame cX1_isSame 5 (some .boolean), Cond.methodLink RX1 68 yX1_fetch, Cond.instanceMethod yX1_fetch, Cond.selects RX1 yX1_fetch yX1_fetch, Cond.code yX1_fetch cX1_fetch 2 none, Cond.methodLink RX1 72 yX7_hasEnded]
def wsX8_count_r6 : List Cond := [Cond.instanceMethod yX7_hasEnded, Cond.selects RX7 yX7_hasEnded yX7_hasEnded, Cond.code yX7_hasEnded cX7_hasEnded 3 (some .boolean), Cond.fieldLink RX7 36 "LitmusHall$Program" "lengths" "[I", Cond.methodLink RX1 76 yX1_addEnd, Cond.instanceMethod yX1_addEnd, Cond.selects RX1 yX1_addEnd yX1_addEnd, Cond.code yX1_addEnd cX1_addEnd 6 none, Cond.methodLink RX1 117 yX1_isBefore, Cond.instanceMethod yX1_isBefore, Cond.selects RX1 yX1_isBefore yX1_isBefore, Cond.code yX1_isBefore cX1_isBefore 6 (some .boolean), Cond.methodLink RX1 79 yX7_can, Cond.instanceMethod yX7_can, Cond.selects RX7 yX7_can yX7_can, Cond.code yX7_can cX7_can 4 (some .boolean), Cond.methodLink RX7 39 yX7_rowSize, Cond.instanceMethod yX7_rowSize, Cond.selects RX7 yX7_rowSize yX7_rowSize, Cond.code yX7_rowSize cX7_rowSize 2 (some .int), Cond.methodLink RX7 43 yX7_nextOf, Cond.instanceMethod yX7_nextOf, Cond.selects RX7 yX7_nextOf yX7_nextOf, Cond.code yX7_nextOf cX7_nextOf 2 (some .int)]
def wsX8_count_r7 : List Cond := [Cond.methodLink RX7 46 yX4_part, Cond.instanceMethod yX4_part, Cond.selects RX4 yX4_part yX4_part, Cond.code yX4_part cX4_part 4 (some .int), Cond.fieldLink RX4 18 "LitmusHall$Program" "parts" "[I", Cond.methodLink RX4 31 yX4_partsAt, Cond.static yX4_partsAt, Cond.code yX4_partsAt cX4_partsAt 2 (some .int), Cond.methodLink RX7 50 yX7_waits, Cond.static yX7_waits, Cond.code yX7_waits cX7_waits 1 (some .boolean), Cond.methodLink RX7 54 yX7_isLocked, Cond.static yX7_isLocked, Cond.code yX7_isLocked cX7_isLocked 1 (some .boolean), Cond.methodLink RX1 89 yX7_move, Cond.instanceMethod yX7_move, Cond.selects RX7 yX7_move yX7_move, Cond.code yX7_move cX7_move 8 none, Cond.fieldLink RX7 61 "LitmusHall$Program" "parts" "[I", Cond.methodLink RX7 57 yX7_letGo, Cond.instanceMethod yX7_letGo, Cond.selects RX7 yX7_letGo yX7_letGo, Cond.code yX7_letGo cX7_letGo 5 none, Cond.constant RX7 89 (-524161)]
def wsX8_count_r8 : List Cond := [Cond.methodLink RX7 86 yX7_rowCell, Cond.instanceMethod yX7_rowCell, Cond.selects RX7 yX7_rowCell yX7_rowCell, Cond.code yX7_rowCell cX7_rowCell 3 (some .int), Cond.methodLink RX7 64 yX4_partsAt, Cond.methodLink RX7 68 yX7_seen, Cond.instanceMethod yX7_seen, Cond.selects RX7 yX7_seen yX7_seen, Cond.code yX7_seen cX7_seen 4 (some .int), Cond.methodLink RX7 90 yX7_rowInt, Cond.instanceMethod yX7_rowInt, Cond.selects RX7 yX7_rowInt yX7_rowInt, Cond.code yX7_rowInt cX7_rowInt 3 (some .int), Cond.methodLink RX7 71 yX7_valueOf, Cond.instanceMethod yX7_valueOf, Cond.selects RX7 yX7_valueOf yX7_valueOf, Cond.code yX7_valueOf cX7_valueOf 5 (some .int), Cond.methodLink RX7 75 yX7_put, Cond.instanceMethod yX7_put, Cond.selects RX7 yX7_put yX7_put, Cond.code yX7_put cX7_put 6 none, Cond.methodLink RX7 79 yX7_forgetStored, Cond.instanceMethod yX7_forgetStored, Cond.selects RX7 yX7_forgetStored yX7_forgetStored]
def wsX8_count_r9 : List Cond := [Cond.code yX7_forgetStored cX7_forgetStored 2 none, Cond.constant RX7 93 (-7864321), Cond.methodLink RX7 82 yX7_lock, Cond.instanceMethod yX7_lock, Cond.selects RX7 yX7_lock yX7_lock, Cond.code yX7_lock cX7_lock 11 none, Cond.methodLink RX8 223 yX2_fill, Cond.instanceMethod yX2_fill, Cond.selects RX2 yX2_fill yX2_fill, Cond.initialized RX2, Cond.code yX2_fill cX2_fill 4 none, Cond.fieldLink RX2 15 "LitmusHall$Findings" "known" "Z", Cond.fieldLink RX2 19 "LitmusHall$Findings" "full" "Z", Cond.fieldLink RX2 22 "LitmusHall$Explorer" "size" "I", Cond.fieldLink RX2 28 "LitmusHall$Findings" "states" "I", Cond.fieldLink RX2 31 "LitmusHall$Explorer" "endSize" "I", Cond.fieldLink RX2 34 "LitmusHall$Findings" "size" "I", Cond.fieldLink RX2 11 "LitmusHall$Findings" "records" "[I", Cond.methodLink RX2 35 Lib.Math.min.name, Cond.methodLink RX2 41 yX2_record, Cond.instanceMethod yX2_record, Cond.selects RX2 yX2_record yX2_record, Cond.code yX2_record cX2_record 8 none, Cond.fieldLink RX2 45 "LitmusHall$Explorer" "ends" "[I"]
def wsX8_count_r10 : List Cond := [Cond.fieldLink RX2 61 "LitmusHall$Explorer" "path" "[I", Cond.methodLink RX2 48 yX1_intOf, Cond.instanceMethod yX1_intOf, Cond.selects RX1 yX1_intOf yX1_intOf, Cond.code yX1_intOf cX1_intOf 3 (some .int), Cond.methodLink RX2 51 yJ7_fill_fda19, Cond.static yJ7_fill_fda19, Cond.code yJ7_fill_fda19 cJ7_fill_fda19 5 none, Cond.methodLink RJ7 13 yJ7_rangeCheck_23922, Cond.static yJ7_rangeCheck_23922, Cond.code yJ7_rangeCheck_23922 cJ7_rangeCheck_23922 3 none, Cond.methodLink RX2 57 yX1_pathTo, Cond.instanceMethod yX1_pathTo, Cond.selects RX1 yX1_pathTo yX1_pathTo, Cond.code yX1_pathTo cX1_pathTo 6 (some .int), Cond.methodLink RX8 203 yX2_statesOrNone, Cond.instanceMethod yX2_statesOrNone, Cond.selects RX2 yX2_statesOrNone yX2_statesOrNone, Cond.code yX2_statesOrNone cX2_statesOrNone 1 (some .int), Cond.methodLink RX8 206 yX2_sizeOrNone, Cond.instanceMethod yX2_sizeOrNone, Cond.selects RX2 yX2_sizeOrNone yX2_sizeOrNone, Cond.code yX2_sizeOrNone cX2_sizeOrNone 1 (some .int), Cond.methodLink RX8 212 yX7_hasEnded]
def wsX8_count_r11 : List Cond := [Cond.methodLink RX8 215 yX4_placesInAll, Cond.instanceMethod yX4_placesInAll, Cond.selects RX4 yX4_placesInAll yX4_placesInAll, Cond.code yX4_placesInAll cX4_placesInAll 3 (some .int), Cond.methodLink RX4 35 Lib.Math.max.name, Cond.static Lib.Math.max.name, Cond.code Lib.Math.max.name Lib.Math.max.code 2 (some .int)]
def wsX8_count : List Cond := .code yX8_count cX8_count 2 (some .int) :: ((wsX8_count_r1 ++ (wsX8_count_r2 ++ (wsX8_count_r3 ++ (wsX8_count_r4 ++ (wsX8_count_r5 ++ (wsX8_count_r6 ++ (wsX8_count_r7 ++ (wsX8_count_r8 ++ (wsX8_count_r9 ++ (wsX8_count_r10 ++ wsX8_count_r11)))))))))) ++ wsX80 ++ wsX40 ++ wsX30 ++ wsX20 ++ wsX10 ++ wsX70)
def wsX9_init_r1 : List Cond := [Cond.methodLink RX9 1 objectInit, Cond.instanceMethod objectInit, Cond.code objectInit ⟨#[0xb1]⟩ 1 none, Cond.arrayClass .int, Cond.fieldLink RX9 7 "LitmusHallModel" "cores" "[I", Cond.fieldLink RX9 13 "LitmusHallModel" "many" "[I", Cond.fieldLink RX9 16 "LitmusHallModel" "kind" "[I", Cond.fieldLink RX9 19 "LitmusHallModel" "cellOf" "[I", Cond.fieldLink RX9 22 "LitmusHallModel" "regOf" "[I", Cond.fieldLink RX9 25 "LitmusHallModel" "valReg" "[I", Cond.fieldLink RX9 28 "LitmusHallModel" "valInt" "[I", Cond.fieldLink RX9 31 "LitmusHallModel" "val2Reg" "[I", Cond.fieldLink RX9 34 "LitmusHallModel" "val2Int" "[I", Cond.fieldLink RX9 37 "LitmusHallModel" "skip" "[I", Cond.fieldLink RX9 40 "LitmusHallModel" "cellInt" "[I", Cond.constant RX9 43 (522000), Cond.fieldLink RX9 44 "LitmusHallModel" "state" "[I", Cond.fieldLink RX9 47 "LitmusHallModel" "from" "[I", Cond.fieldLink RX9 50 "LitmusHallModel" "by" "[I", Cond.fieldLink RX9 53 "LitmusHallModel" "next" "[I", Cond.fieldLink RX9 56 "LitmusHallModel" "head" "[I", Cond.fieldLink RX9 59 "LitmusHallModel" "states" "[I", Cond.arrayClass .boolean, Cond.fieldLink RX9 62 "LitmusHallModel" "isFull" "[Z"]
def wsX9_init_r2 : List Cond := [Cond.fieldLink RX9 66 "LitmusHallModel" "isDone" "[Z", Cond.fieldLink RX9 69 "LitmusHallModel" "ends" "[I", Cond.fieldLink RX9 72 "LitmusHallModel" "endMany" "[I", Cond.fieldLink RX9 75 "LitmusHallModel" "now" "[I", Cond.fieldLink RX9 78 "LitmusHallModel" "machine" "[I", Cond.fieldLink RX9 81 "LitmusHallModel" "history" "[I", Cond.fieldLink RX9 84 "LitmusHallModel" "machineMode" "I", Cond.arrayClass .byte, Cond.fieldLink RX9 88 "LitmusHallModel" "tape" "[B", Cond.fieldLink RX9 92 "LitmusHallModel" "faultPlace" "I", Cond.fieldLink RX9 95 "LitmusHallModel" "skipPlace" "[I", Cond.fieldLink RX9 98 "LitmusHallModel" "racing" "I", Cond.fieldLink RX9 101 "LitmusHallModel" "raceStep" "[I", Cond.fieldLink RX9 104 "LitmusHallModel" "cureMany" "I", Cond.fieldLink RX9 107 "LitmusHallModel" "cure" "[I", Cond.fieldLink RX9 110 "LitmusHallModel" "spot" "[I", Cond.fieldLink RX9 113 "LitmusHallModel" "moved" "[I"]
def wsX9_init : List Cond := .code yX9_init cX9_init 1 none :: ((wsX9_init_r1 ++ wsX9_init_r2) ++ wsX90)
def wsX9_byteRow : List Cond := .code yX9_byteRow cX9_byteRow 3 none :: ([.fieldLink RX9 88 "LitmusHallModel" "tape" "[B", .fieldLink RX9 116 "LitmusHallModel" "taped" "I"] ++ wsX90)
def wsX9_feed : List Cond := .code yX9_feed cX9_feed 6 (some .int) :: ([.fieldLink RX9 116 "LitmusHallModel" "taped" "I", .methodLink RX9 119 yX9_byteRow, .instanceMethod yX9_byteRow, .selects RX9 yX9_byteRow yX9_byteRow, .initialized RX9, .code yX9_byteRow cX9_byteRow 3 none, .fieldLink RX9 88 "LitmusHallModel" "tape" "[B"] ++ wsX90)
def wsX9_back : List Cond := .code yX9_back cX9_back 2 (some .int) :: ([.fieldLink RX9 116 "LitmusHallModel" "taped" "I"] ++ wsX90)
def wsX9_seen : List Cond := .code yX9_seen cX9_seen 2 (some .int) :: ([.fieldLink RX9 116 "LitmusHallModel" "taped" "I", .fieldLink RX9 88 "LitmusHallModel" "tape" "[B"] ++ wsX90)
def wsX9_isLetter : List Cond := .code yX9_isLetter cX9_isLetter 2 (some .boolean) :: ([.methodLink RX9 123 yX9_seen, .instanceMethod yX9_seen, .selects RX9 yX9_seen yX9_seen, .initialized RX9, .code yX9_seen cX9_seen 2 (some .int), .fieldLink RX9 116 "LitmusHallModel" "taped" "I", .fieldLink RX9 88 "LitmusHallModel" "tape" "[B"] ++ wsX90)
def wsX9_isDigit : List Cond := .code yX9_isDigit cX9_isDigit 2 (some .boolean) :: ([.methodLink RX9 123 yX9_seen, .instanceMethod yX9_seen, .selects RX9 yX9_seen yX9_seen, .initialized RX9, .code yX9_seen cX9_seen 2 (some .int), .fieldLink RX9 116 "LitmusHallModel" "taped" "I", .fieldLink RX9 88 "LitmusHallModel" "tape" "[B"] ++ wsX90)
def wsX9_token : List Cond := .code yX9_token cX9_token 5 none :: ([.fieldLink RX9 127 "LitmusHallModel" "end" "I", .fieldLink RX9 116 "LitmusHallModel" "taped" "I", .fieldLink RX9 88 "LitmusHallModel" "tape" "[B", .fieldLink RX9 130 "LitmusHallModel" "begin" "I", .fieldLink RX9 133 "LitmusHallModel" "word" "J", .fieldLink RX9 137 "LitmusHallModel" "sort" "I", .methodLink RX9 123 yX9_seen, .instanceMethod yX9_seen, .selects RX9 yX9_seen yX9_seen, .initialized RX9, .code yX9_seen cX9_seen 2 (some .int), .methodLink RX9 140 yX9_isLetter, .instanceMethod yX9_isLetter, .selects RX9 yX9_isLetter yX9_isLetter, .code yX9_isLetter cX9_isLetter 2 (some .boolean), .methodLink RX9 144 yX9_isDigit, .instanceMethod yX9_isDigit, .selects RX9 yX9_isDigit yX9_isDigit, .code yX9_isDigit cX9_isDigit 2 (some .boolean)] ++ wsX90)
def wsX9_stop : List Cond := .code yX9_stop cX9_stop 3 (some .boolean) :: ([.fieldLink RX9 147 "LitmusHallModel" "faultKind" "I", .fieldLink RX9 92 "LitmusHallModel" "faultPlace" "I", .fieldLink RX9 150 "LitmusHallModel" "stopped" "Z"] ++ wsX90)
def wsX9_tell : List Cond := .code yX9_tell cX9_tell 2 none :: ([.fieldLink RX9 147 "LitmusHallModel" "faultKind" "I", .fieldLink RX9 92 "LitmusHallModel" "faultPlace" "I"] ++ wsX90)
def wsX9_pass_r1 : List Cond := [Cond.fieldLink RX9 154 "LitmusHallModel" "tokens" "I", Cond.fieldLink RX9 130 "LitmusHallModel" "begin" "I", Cond.methodLink RX9 157 yX9_stop, Cond.instanceMethod yX9_stop, Cond.selects RX9 yX9_stop yX9_stop, Cond.initialized RX9, Cond.code yX9_stop cX9_stop 3 (some .boolean), Cond.fieldLink RX9 147 "LitmusHallModel" "faultKind" "I", Cond.fieldLink RX9 92 "LitmusHallModel" "faultPlace" "I", Cond.fieldLink RX9 150 "LitmusHallModel" "stopped" "Z", Cond.methodLink RX9 161 yX9_token, Cond.instanceMethod yX9_token, Cond.selects RX9 yX9_token yX9_token, Cond.code yX9_token cX9_token 5 none, Cond.fieldLink RX9 127 "LitmusHallModel" "end" "I", Cond.fieldLink RX9 116 "LitmusHallModel" "taped" "I", Cond.fieldLink RX9 88 "LitmusHallModel" "tape" "[B", Cond.fieldLink RX9 133 "LitmusHallModel" "word" "J", Cond.fieldLink RX9 137 "LitmusHallModel" "sort" "I", Cond.methodLink RX9 123 yX9_seen, Cond.instanceMethod yX9_seen, Cond.selects RX9 yX9_seen yX9_seen, Cond.code yX9_seen cX9_seen 2 (some .int), Cond.methodLink RX9 140 yX9_isLetter]
def wsX9_pass_r2 : List Cond := [Cond.instanceMethod yX9_isLetter, Cond.selects RX9 yX9_isLetter yX9_isLetter, Cond.code yX9_isLetter cX9_isLetter 2 (some .boolean), Cond.methodLink RX9 144 yX9_isDigit, Cond.instanceMethod yX9_isDigit, Cond.selects RX9 yX9_isDigit yX9_isDigit, Cond.code yX9_isDigit cX9_isDigit 2 (some .boolean)]
def wsX9_pass : List Cond := .code yX9_pass cX9_pass 1 (some .boolean) :: ((wsX9_pass_r1 ++ wsX9_pass_r2) ++ wsX90)
def wsX9_isWord : List Cond := .code yX9_isWord cX9_isWord 3 (some .boolean) :: ([.fieldLink RX9 137 "LitmusHallModel" "sort" "I", .fieldLink RX9 133 "LitmusHallModel" "word" "J"] ++ wsX90)
def wsX9_sign_r1 : List Cond := [Cond.fieldLink RX9 137 "LitmusHallModel" "sort" "I", Cond.fieldLink RX9 133 "LitmusHallModel" "word" "J", Cond.fieldLink RX9 130 "LitmusHallModel" "begin" "I", Cond.methodLink RX9 164 yX9_pass, Cond.instanceMethod yX9_pass, Cond.selects RX9 yX9_pass yX9_pass, Cond.initialized RX9, Cond.code yX9_pass cX9_pass 1 (some .boolean), Cond.fieldLink RX9 154 "LitmusHallModel" "tokens" "I", Cond.methodLink RX9 157 yX9_stop, Cond.instanceMethod yX9_stop, Cond.selects RX9 yX9_stop yX9_stop, Cond.code yX9_stop cX9_stop 3 (some .boolean), Cond.fieldLink RX9 147 "LitmusHallModel" "faultKind" "I", Cond.fieldLink RX9 92 "LitmusHallModel" "faultPlace" "I", Cond.fieldLink RX9 150 "LitmusHallModel" "stopped" "Z", Cond.methodLink RX9 161 yX9_token, Cond.instanceMethod yX9_token, Cond.selects RX9 yX9_token yX9_token, Cond.code yX9_token cX9_token 5 none, Cond.fieldLink RX9 127 "LitmusHallModel" "end" "I", Cond.fieldLink RX9 116 "LitmusHallModel" "taped" "I", Cond.fieldLink RX9 88 "LitmusHallModel" "tape" "[B", Cond.methodLink RX9 123 yX9_seen]
def wsX9_sign_r2 : List Cond := [Cond.instanceMethod yX9_seen, Cond.selects RX9 yX9_seen yX9_seen, Cond.code yX9_seen cX9_seen 2 (some .int), Cond.methodLink RX9 140 yX9_isLetter, Cond.instanceMethod yX9_isLetter, Cond.selects RX9 yX9_isLetter yX9_isLetter, Cond.code yX9_isLetter cX9_isLetter 2 (some .boolean), Cond.methodLink RX9 144 yX9_isDigit, Cond.instanceMethod yX9_isDigit, Cond.selects RX9 yX9_isDigit yX9_isDigit, Cond.code yX9_isDigit cX9_isDigit 2 (some .boolean)]
def wsX9_sign : List Cond := .code yX9_sign cX9_sign 2 (some .boolean) :: ((wsX9_sign_r1 ++ wsX9_sign_r2) ++ wsX90)
def wsX9_words_r1 : List Cond := [Cond.fieldLink RX9 130 "LitmusHallModel" "begin" "I", Cond.methodLink RX9 168 yX9_isWord, Cond.instanceMethod yX9_isWord, Cond.selects RX9 yX9_isWord yX9_isWord, Cond.initialized RX9, Cond.code yX9_isWord cX9_isWord 3 (some .boolean), Cond.fieldLink RX9 137 "LitmusHallModel" "sort" "I", Cond.fieldLink RX9 133 "LitmusHallModel" "word" "J", Cond.methodLink RX9 164 yX9_pass, Cond.instanceMethod yX9_pass, Cond.selects RX9 yX9_pass yX9_pass, Cond.code yX9_pass cX9_pass 1 (some .boolean), Cond.fieldLink RX9 154 "LitmusHallModel" "tokens" "I", Cond.methodLink RX9 157 yX9_stop, Cond.instanceMethod yX9_stop, Cond.selects RX9 yX9_stop yX9_stop, Cond.code yX9_stop cX9_stop 3 (some .boolean), Cond.fieldLink RX9 147 "LitmusHallModel" "faultKind" "I", Cond.fieldLink RX9 92 "LitmusHallModel" "faultPlace" "I", Cond.fieldLink RX9 150 "LitmusHallModel" "stopped" "Z", Cond.methodLink RX9 161 yX9_token, Cond.instanceMethod yX9_token, Cond.selects RX9 yX9_token yX9_token, Cond.code yX9_token cX9_token 5 none]
def wsX9_words_r2 : List Cond := [Cond.fieldLink RX9 127 "LitmusHallModel" "end" "I", Cond.fieldLink RX9 116 "LitmusHallModel" "taped" "I", Cond.fieldLink RX9 88 "LitmusHallModel" "tape" "[B", Cond.methodLink RX9 123 yX9_seen, Cond.instanceMethod yX9_seen, Cond.selects RX9 yX9_seen yX9_seen, Cond.code yX9_seen cX9_seen 2 (some .int), Cond.methodLink RX9 140 yX9_isLetter, Cond.instanceMethod yX9_isLetter, Cond.selects RX9 yX9_isLetter yX9_isLetter, Cond.code yX9_isLetter cX9_isLetter 2 (some .boolean), Cond.methodLink RX9 144 yX9_isDigit, Cond.instanceMethod yX9_isDigit, Cond.selects RX9 yX9_isDigit yX9_isDigit, Cond.code yX9_isDigit cX9_isDigit 2 (some .boolean)]
def wsX9_words : List Cond := .code yX9_words cX9_words 3 (some .boolean) :: ((wsX9_words_r1 ++ wsX9_words_r2) ++ wsX90)
def wsX9_whole_r1 : List Cond := [Cond.fieldLink RX9 137 "LitmusHallModel" "sort" "I", Cond.fieldLink RX9 130 "LitmusHallModel" "begin" "I", Cond.fieldLink RX9 172 "LitmusHallModel" "numberPlace" "I", Cond.fieldLink RX9 175 "LitmusHallModel" "number" "I", Cond.fieldLink RX9 127 "LitmusHallModel" "end" "I", Cond.fieldLink RX9 88 "LitmusHallModel" "tape" "[B", Cond.methodLink RX9 157 yX9_stop, Cond.instanceMethod yX9_stop, Cond.selects RX9 yX9_stop yX9_stop, Cond.initialized RX9, Cond.code yX9_stop cX9_stop 3 (some .boolean), Cond.fieldLink RX9 147 "LitmusHallModel" "faultKind" "I", Cond.fieldLink RX9 92 "LitmusHallModel" "faultPlace" "I", Cond.fieldLink RX9 150 "LitmusHallModel" "stopped" "Z", Cond.methodLink RX9 164 yX9_pass, Cond.instanceMethod yX9_pass, Cond.selects RX9 yX9_pass yX9_pass, Cond.code yX9_pass cX9_pass 1 (some .boolean), Cond.fieldLink RX9 154 "LitmusHallModel" "tokens" "I", Cond.methodLink RX9 161 yX9_token, Cond.instanceMethod yX9_token, Cond.selects RX9 yX9_token yX9_token, Cond.code yX9_token cX9_token 5 none, Cond.fieldLink RX9 116 "LitmusHallModel" "taped" "I"]
def wsX9_whole_r2 : List Cond := [Cond.fieldLink RX9 133 "LitmusHallModel" "word" "J", Cond.methodLink RX9 123 yX9_seen, Cond.instanceMethod yX9_seen, Cond.selects RX9 yX9_seen yX9_seen, Cond.code yX9_seen cX9_seen 2 (some .int), Cond.methodLink RX9 140 yX9_isLetter, Cond.instanceMethod yX9_isLetter, Cond.selects RX9 yX9_isLetter yX9_isLetter, Cond.code yX9_isLetter cX9_isLetter 2 (some .boolean), Cond.methodLink RX9 144 yX9_isDigit, Cond.instanceMethod yX9_isDigit, Cond.selects RX9 yX9_isDigit yX9_isDigit, Cond.code yX9_isDigit cX9_isDigit 2 (some .boolean)]
def wsX9_whole : List Cond := .code yX9_whole cX9_whole 2 (some .boolean) :: ((wsX9_whole_r1 ++ wsX9_whole_r2) ++ wsX90)
def wsX9_integer_r1 : List Cond := [Cond.fieldLink RX9 137 "LitmusHallModel" "sort" "I", Cond.fieldLink RX9 133 "LitmusHallModel" "word" "J", Cond.constantLong RX9 178 (45), Cond.fieldLink RX9 175 "LitmusHallModel" "number" "I", Cond.methodLink RX9 164 yX9_pass, Cond.instanceMethod yX9_pass, Cond.selects RX9 yX9_pass yX9_pass, Cond.initialized RX9, Cond.code yX9_pass cX9_pass 1 (some .boolean), Cond.fieldLink RX9 154 "LitmusHallModel" "tokens" "I", Cond.fieldLink RX9 130 "LitmusHallModel" "begin" "I", Cond.methodLink RX9 157 yX9_stop, Cond.instanceMethod yX9_stop, Cond.selects RX9 yX9_stop yX9_stop, Cond.code yX9_stop cX9_stop 3 (some .boolean), Cond.fieldLink RX9 147 "LitmusHallModel" "faultKind" "I", Cond.fieldLink RX9 92 "LitmusHallModel" "faultPlace" "I", Cond.fieldLink RX9 150 "LitmusHallModel" "stopped" "Z", Cond.methodLink RX9 161 yX9_token, Cond.instanceMethod yX9_token, Cond.selects RX9 yX9_token yX9_token, Cond.code yX9_token cX9_token 5 none, Cond.fieldLink RX9 127 "LitmusHallModel" "end" "I", Cond.fieldLink RX9 116 "LitmusHallModel" "taped" "I"]
def wsX9_integer_r2 : List Cond := [Cond.fieldLink RX9 88 "LitmusHallModel" "tape" "[B", Cond.methodLink RX9 123 yX9_seen, Cond.instanceMethod yX9_seen, Cond.selects RX9 yX9_seen yX9_seen, Cond.code yX9_seen cX9_seen 2 (some .int), Cond.methodLink RX9 140 yX9_isLetter, Cond.instanceMethod yX9_isLetter, Cond.selects RX9 yX9_isLetter yX9_isLetter, Cond.code yX9_isLetter cX9_isLetter 2 (some .boolean), Cond.methodLink RX9 144 yX9_isDigit, Cond.instanceMethod yX9_isDigit, Cond.selects RX9 yX9_isDigit yX9_isDigit, Cond.code yX9_isDigit cX9_isDigit 2 (some .boolean), Cond.methodLink RX9 180 yX9_whole, Cond.instanceMethod yX9_whole, Cond.selects RX9 yX9_whole yX9_whole, Cond.code yX9_whole cX9_whole 2 (some .boolean), Cond.fieldLink RX9 172 "LitmusHallModel" "numberPlace" "I"]
def wsX9_integer : List Cond := .code yX9_integer cX9_integer 2 (some .boolean) :: ((wsX9_integer_r1 ++ wsX9_integer_r2) ++ wsX90)
def wsX9_cell_r1 : List Cond := [Cond.fieldLink RX9 175 "LitmusHallModel" "number" "I", Cond.fieldLink RX9 172 "LitmusHallModel" "numberPlace" "I", Cond.fieldLink RX9 19 "LitmusHallModel" "cellOf" "[I", Cond.fieldLink RX9 186 "LitmusHallModel" "place" "I", Cond.methodLink RX9 180 yX9_whole, Cond.instanceMethod yX9_whole, Cond.selects RX9 yX9_whole yX9_whole, Cond.initialized RX9, Cond.code yX9_whole cX9_whole 2 (some .boolean), Cond.fieldLink RX9 137 "LitmusHallModel" "sort" "I", Cond.fieldLink RX9 130 "LitmusHallModel" "begin" "I", Cond.fieldLink RX9 127 "LitmusHallModel" "end" "I", Cond.fieldLink RX9 88 "LitmusHallModel" "tape" "[B", Cond.methodLink RX9 157 yX9_stop, Cond.instanceMethod yX9_stop, Cond.selects RX9 yX9_stop yX9_stop, Cond.code yX9_stop cX9_stop 3 (some .boolean), Cond.fieldLink RX9 147 "LitmusHallModel" "faultKind" "I", Cond.fieldLink RX9 92 "LitmusHallModel" "faultPlace" "I", Cond.fieldLink RX9 150 "LitmusHallModel" "stopped" "Z", Cond.methodLink RX9 164 yX9_pass, Cond.instanceMethod yX9_pass, Cond.selects RX9 yX9_pass yX9_pass, Cond.code yX9_pass cX9_pass 1 (some .boolean)]
def wsX9_cell_r2 : List Cond := [Cond.fieldLink RX9 154 "LitmusHallModel" "tokens" "I", Cond.methodLink RX9 161 yX9_token, Cond.instanceMethod yX9_token, Cond.selects RX9 yX9_token yX9_token, Cond.code yX9_token cX9_token 5 none, Cond.fieldLink RX9 116 "LitmusHallModel" "taped" "I", Cond.fieldLink RX9 133 "LitmusHallModel" "word" "J", Cond.methodLink RX9 123 yX9_seen, Cond.instanceMethod yX9_seen, Cond.selects RX9 yX9_seen yX9_seen, Cond.code yX9_seen cX9_seen 2 (some .int), Cond.methodLink RX9 140 yX9_isLetter, Cond.instanceMethod yX9_isLetter, Cond.selects RX9 yX9_isLetter yX9_isLetter, Cond.code yX9_isLetter cX9_isLetter 2 (some .boolean), Cond.methodLink RX9 144 yX9_isDigit, Cond.instanceMethod yX9_isDigit, Cond.selects RX9 yX9_isDigit yX9_isDigit, Cond.code yX9_isDigit cX9_isDigit 2 (some .boolean), Cond.methodLink RX9 183 yX9_tell, Cond.instanceMethod yX9_tell, Cond.selects RX9 yX9_tell yX9_tell, Cond.code yX9_tell cX9_tell 2 none]
def wsX9_cell : List Cond := .code yX9_cell cX9_cell 1 (some .boolean) :: ((wsX9_cell_r1 ++ wsX9_cell_r2) ++ wsX90)
def wsX9_isRegister : List Cond := .code yX9_isRegister cX9_isRegister 1 (some .boolean) :: ([.fieldLink RX9 137 "LitmusHallModel" "sort" "I", .fieldLink RX9 133 "LitmusHallModel" "word" "J", .constantLong RX9 189 (97), .constantLong RX9 191 (99)] ++ wsX90)
def wsX9_register_r1 : List Cond := [Cond.fieldLink RX9 130 "LitmusHallModel" "begin" "I", Cond.fieldLink RX9 22 "LitmusHallModel" "regOf" "[I", Cond.fieldLink RX9 186 "LitmusHallModel" "place" "I", Cond.fieldLink RX9 133 "LitmusHallModel" "word" "J", Cond.methodLink RX9 193 yX9_isRegister, Cond.instanceMethod yX9_isRegister, Cond.selects RX9 yX9_isRegister yX9_isRegister, Cond.initialized RX9, Cond.code yX9_isRegister cX9_isRegister 1 (some .boolean), Cond.fieldLink RX9 137 "LitmusHallModel" "sort" "I", Cond.constantLong RX9 189 (97), Cond.constantLong RX9 191 (99), Cond.methodLink RX9 157 yX9_stop, Cond.instanceMethod yX9_stop, Cond.selects RX9 yX9_stop yX9_stop, Cond.code yX9_stop cX9_stop 3 (some .boolean), Cond.fieldLink RX9 147 "LitmusHallModel" "faultKind" "I", Cond.fieldLink RX9 92 "LitmusHallModel" "faultPlace" "I", Cond.fieldLink RX9 150 "LitmusHallModel" "stopped" "Z", Cond.methodLink RX9 164 yX9_pass, Cond.instanceMethod yX9_pass, Cond.selects RX9 yX9_pass yX9_pass, Cond.code yX9_pass cX9_pass 1 (some .boolean), Cond.fieldLink RX9 154 "LitmusHallModel" "tokens" "I"]
def wsX9_register_r2 : List Cond := [Cond.methodLink RX9 161 yX9_token, Cond.instanceMethod yX9_token, Cond.selects RX9 yX9_token yX9_token, Cond.code yX9_token cX9_token 5 none, Cond.fieldLink RX9 127 "LitmusHallModel" "end" "I", Cond.fieldLink RX9 116 "LitmusHallModel" "taped" "I", Cond.fieldLink RX9 88 "LitmusHallModel" "tape" "[B", Cond.methodLink RX9 123 yX9_seen, Cond.instanceMethod yX9_seen, Cond.selects RX9 yX9_seen yX9_seen, Cond.code yX9_seen cX9_seen 2 (some .int), Cond.methodLink RX9 140 yX9_isLetter, Cond.instanceMethod yX9_isLetter, Cond.selects RX9 yX9_isLetter yX9_isLetter, Cond.code yX9_isLetter cX9_isLetter 2 (some .boolean), Cond.methodLink RX9 144 yX9_isDigit, Cond.instanceMethod yX9_isDigit, Cond.selects RX9 yX9_isDigit yX9_isDigit, Cond.code yX9_isDigit cX9_isDigit 2 (some .boolean)]
def wsX9_register : List Cond := .code yX9_register cX9_register 1 (some .boolean) :: ((wsX9_register_r1 ++ wsX9_register_r2) ++ wsX90)
def wsX9_value_r1 : List Cond := [Cond.fieldLink RX9 133 "LitmusHallModel" "word" "J", Cond.fieldLink RX9 175 "LitmusHallModel" "number" "I", Cond.fieldLink RX9 31 "LitmusHallModel" "val2Reg" "[I", Cond.fieldLink RX9 186 "LitmusHallModel" "place" "I", Cond.fieldLink RX9 34 "LitmusHallModel" "val2Int" "[I", Cond.fieldLink RX9 25 "LitmusHallModel" "valReg" "[I", Cond.fieldLink RX9 28 "LitmusHallModel" "valInt" "[I", Cond.methodLink RX9 193 yX9_isRegister, Cond.instanceMethod yX9_isRegister, Cond.selects RX9 yX9_isRegister yX9_isRegister, Cond.initialized RX9, Cond.code yX9_isRegister cX9_isRegister 1 (some .boolean), Cond.fieldLink RX9 137 "LitmusHallModel" "sort" "I", Cond.constantLong RX9 189 (97), Cond.constantLong RX9 191 (99), Cond.methodLink RX9 164 yX9_pass, Cond.instanceMethod yX9_pass, Cond.selects RX9 yX9_pass yX9_pass, Cond.code yX9_pass cX9_pass 1 (some .boolean), Cond.fieldLink RX9 154 "LitmusHallModel" "tokens" "I", Cond.fieldLink RX9 130 "LitmusHallModel" "begin" "I", Cond.methodLink RX9 157 yX9_stop, Cond.instanceMethod yX9_stop, Cond.selects RX9 yX9_stop yX9_stop]
def wsX9_value_r2 : List Cond := [Cond.code yX9_stop cX9_stop 3 (some .boolean), Cond.fieldLink RX9 147 "LitmusHallModel" "faultKind" "I", Cond.fieldLink RX9 92 "LitmusHallModel" "faultPlace" "I", Cond.fieldLink RX9 150 "LitmusHallModel" "stopped" "Z", Cond.methodLink RX9 161 yX9_token, Cond.instanceMethod yX9_token, Cond.selects RX9 yX9_token yX9_token, Cond.code yX9_token cX9_token 5 none, Cond.fieldLink RX9 127 "LitmusHallModel" "end" "I", Cond.fieldLink RX9 116 "LitmusHallModel" "taped" "I", Cond.fieldLink RX9 88 "LitmusHallModel" "tape" "[B", Cond.methodLink RX9 123 yX9_seen, Cond.instanceMethod yX9_seen, Cond.selects RX9 yX9_seen yX9_seen, Cond.code yX9_seen cX9_seen 2 (some .int), Cond.methodLink RX9 140 yX9_isLetter, Cond.instanceMethod yX9_isLetter, Cond.selects RX9 yX9_isLetter yX9_isLetter, Cond.code yX9_isLetter cX9_isLetter 2 (some .boolean), Cond.methodLink RX9 144 yX9_isDigit, Cond.instanceMethod yX9_isDigit, Cond.selects RX9 yX9_isDigit yX9_isDigit, Cond.code yX9_isDigit cX9_isDigit 2 (some .boolean), Cond.methodLink RX9 196 yX9_integer]
def wsX9_value_r3 : List Cond := [Cond.instanceMethod yX9_integer, Cond.selects RX9 yX9_integer yX9_integer, Cond.code yX9_integer cX9_integer 2 (some .boolean), Cond.constantLong RX9 178 (45), Cond.methodLink RX9 180 yX9_whole, Cond.instanceMethod yX9_whole, Cond.selects RX9 yX9_whole yX9_whole, Cond.code yX9_whole cX9_whole 2 (some .boolean), Cond.fieldLink RX9 172 "LitmusHallModel" "numberPlace" "I"]
def wsX9_value : List Cond := .code yX9_value cX9_value 3 (some .boolean) :: ((wsX9_value_r1 ++ (wsX9_value_r2 ++ wsX9_value_r3)) ++ wsX90)
def wsX9_began : List Cond := .code yX9_began cX9_began 2 (some .int) :: ([.constantLong RX9 199 (1819238756), .constantLong RX9 201 (495874699877), .constantLong RX9 203 (7562612), .constantLong RX9 205 (6382692), .constantLong RX9 207 (439788397413), .constantLong RX9 209 (1937203568), .constantLong RX9 211 (6909539), .constantLong RX9 213 (6513011), .constantLong RX9 215 (26982)])
def wsX9_instruction_r1 : List Cond := [Cond.fieldLink RX9 16 "LitmusHallModel" "kind" "[I", Cond.fieldLink RX9 186 "LitmusHallModel" "place" "I", Cond.constantLong RX9 262 (1936419184), Cond.fieldLink RX9 37 "LitmusHallModel" "skip" "[I", Cond.fieldLink RX9 175 "LitmusHallModel" "number" "I", Cond.fieldLink RX9 95 "LitmusHallModel" "skipPlace" "[I", Cond.fieldLink RX9 172 "LitmusHallModel" "numberPlace" "I", Cond.methodLink RX9 232 yX9_cell, Cond.instanceMethod yX9_cell, Cond.selects RX9 yX9_cell yX9_cell, Cond.initialized RX9, Cond.code yX9_cell cX9_cell 1 (some .boolean), Cond.fieldLink RX9 19 "LitmusHallModel" "cellOf" "[I", Cond.methodLink RX9 180 yX9_whole, Cond.instanceMethod yX9_whole, Cond.selects RX9 yX9_whole yX9_whole, Cond.code yX9_whole cX9_whole 2 (some .boolean), Cond.fieldLink RX9 137 "LitmusHallModel" "sort" "I", Cond.fieldLink RX9 130 "LitmusHallModel" "begin" "I", Cond.fieldLink RX9 127 "LitmusHallModel" "end" "I", Cond.fieldLink RX9 88 "LitmusHallModel" "tape" "[B", Cond.methodLink RX9 157 yX9_stop, Cond.instanceMethod yX9_stop, Cond.selects RX9 yX9_stop yX9_stop]
def wsX9_instruction_r2 : List Cond := [Cond.code yX9_stop cX9_stop 3 (some .boolean), Cond.fieldLink RX9 147 "LitmusHallModel" "faultKind" "I", Cond.fieldLink RX9 92 "LitmusHallModel" "faultPlace" "I", Cond.fieldLink RX9 150 "LitmusHallModel" "stopped" "Z", Cond.methodLink RX9 164 yX9_pass, Cond.instanceMethod yX9_pass, Cond.selects RX9 yX9_pass yX9_pass, Cond.code yX9_pass cX9_pass 1 (some .boolean), Cond.fieldLink RX9 154 "LitmusHallModel" "tokens" "I", Cond.methodLink RX9 161 yX9_token, Cond.instanceMethod yX9_token, Cond.selects RX9 yX9_token yX9_token, Cond.code yX9_token cX9_token 5 none, Cond.fieldLink RX9 116 "LitmusHallModel" "taped" "I", Cond.fieldLink RX9 133 "LitmusHallModel" "word" "J", Cond.methodLink RX9 123 yX9_seen, Cond.instanceMethod yX9_seen, Cond.selects RX9 yX9_seen yX9_seen, Cond.code yX9_seen cX9_seen 2 (some .int), Cond.methodLink RX9 140 yX9_isLetter, Cond.instanceMethod yX9_isLetter, Cond.selects RX9 yX9_isLetter yX9_isLetter, Cond.code yX9_isLetter cX9_isLetter 2 (some .boolean), Cond.methodLink RX9 144 yX9_isDigit]
def wsX9_instruction_r3 : List Cond := [Cond.instanceMethod yX9_isDigit, Cond.selects RX9 yX9_isDigit yX9_isDigit, Cond.code yX9_isDigit cX9_isDigit 2 (some .boolean), Cond.methodLink RX9 183 yX9_tell, Cond.instanceMethod yX9_tell, Cond.selects RX9 yX9_tell yX9_tell, Cond.code yX9_tell cX9_tell 2 none, Cond.methodLink RX9 255 yX9_value, Cond.instanceMethod yX9_value, Cond.selects RX9 yX9_value yX9_value, Cond.code yX9_value cX9_value 3 (some .boolean), Cond.fieldLink RX9 31 "LitmusHallModel" "val2Reg" "[I", Cond.fieldLink RX9 34 "LitmusHallModel" "val2Int" "[I", Cond.fieldLink RX9 25 "LitmusHallModel" "valReg" "[I", Cond.fieldLink RX9 28 "LitmusHallModel" "valInt" "[I", Cond.methodLink RX9 193 yX9_isRegister, Cond.instanceMethod yX9_isRegister, Cond.selects RX9 yX9_isRegister yX9_isRegister, Cond.code yX9_isRegister cX9_isRegister 1 (some .boolean), Cond.constantLong RX9 189 (97), Cond.constantLong RX9 191 (99), Cond.methodLink RX9 196 yX9_integer, Cond.instanceMethod yX9_integer, Cond.selects RX9 yX9_integer yX9_integer]
def wsX9_instruction_r4 : List Cond := [Cond.code yX9_integer cX9_integer 2 (some .boolean), Cond.constantLong RX9 178 (45), Cond.methodLink RX9 259 yX9_register, Cond.instanceMethod yX9_register, Cond.selects RX9 yX9_register yX9_register, Cond.code yX9_register cX9_register 1 (some .boolean), Cond.fieldLink RX9 22 "LitmusHallModel" "regOf" "[I", Cond.methodLink RX9 252 yX9_words, Cond.instanceMethod yX9_words, Cond.selects RX9 yX9_words yX9_words, Cond.code yX9_words cX9_words 3 (some .boolean), Cond.methodLink RX9 168 yX9_isWord, Cond.instanceMethod yX9_isWord, Cond.selects RX9 yX9_isWord yX9_isWord, Cond.code yX9_isWord cX9_isWord 3 (some .boolean)]
def wsX9_instruction : List Cond := .code yX9_instruction cX9_instruction 3 (some .boolean) :: ((wsX9_instruction_r1 ++ (wsX9_instruction_r2 ++ (wsX9_instruction_r3 ++ wsX9_instruction_r4))) ++ wsX90)
def wsX9_core_r1 : List Cond := [Cond.fieldLink RX9 7 "LitmusHallModel" "cores" "[I", Cond.fieldLink RX9 137 "LitmusHallModel" "sort" "I", Cond.fieldLink RX9 133 "LitmusHallModel" "word" "J", Cond.fieldLink RX9 130 "LitmusHallModel" "begin" "I", Cond.fieldLink RX9 186 "LitmusHallModel" "place" "I", Cond.fieldLink RX9 16 "LitmusHallModel" "kind" "[I", Cond.fieldLink RX9 19 "LitmusHallModel" "cellOf" "[I", Cond.fieldLink RX9 22 "LitmusHallModel" "regOf" "[I", Cond.fieldLink RX9 25 "LitmusHallModel" "valReg" "[I", Cond.fieldLink RX9 28 "LitmusHallModel" "valInt" "[I", Cond.fieldLink RX9 31 "LitmusHallModel" "val2Reg" "[I", Cond.fieldLink RX9 34 "LitmusHallModel" "val2Int" "[I", Cond.fieldLink RX9 37 "LitmusHallModel" "skip" "[I", Cond.fieldLink RX9 95 "LitmusHallModel" "skipPlace" "[I", Cond.constantLong RX9 250 (6647396), Cond.fieldLink RX9 13 "LitmusHallModel" "many" "[I", Cond.methodLink RX9 164 yX9_pass, Cond.instanceMethod yX9_pass, Cond.selects RX9 yX9_pass yX9_pass, Cond.initialized RX9, Cond.code yX9_pass cX9_pass 1 (some .boolean), Cond.fieldLink RX9 154 "LitmusHallModel" "tokens" "I", Cond.methodLink RX9 157 yX9_stop, Cond.instanceMethod yX9_stop]
def wsX9_core_r2 : List Cond := [Cond.selects RX9 yX9_stop yX9_stop, Cond.code yX9_stop cX9_stop 3 (some .boolean), Cond.fieldLink RX9 147 "LitmusHallModel" "faultKind" "I", Cond.fieldLink RX9 92 "LitmusHallModel" "faultPlace" "I", Cond.fieldLink RX9 150 "LitmusHallModel" "stopped" "Z", Cond.methodLink RX9 161 yX9_token, Cond.instanceMethod yX9_token, Cond.selects RX9 yX9_token yX9_token, Cond.code yX9_token cX9_token 5 none, Cond.fieldLink RX9 127 "LitmusHallModel" "end" "I", Cond.fieldLink RX9 116 "LitmusHallModel" "taped" "I", Cond.fieldLink RX9 88 "LitmusHallModel" "tape" "[B", Cond.methodLink RX9 123 yX9_seen, Cond.instanceMethod yX9_seen, Cond.selects RX9 yX9_seen yX9_seen, Cond.code yX9_seen cX9_seen 2 (some .int), Cond.methodLink RX9 140 yX9_isLetter, Cond.instanceMethod yX9_isLetter, Cond.selects RX9 yX9_isLetter yX9_isLetter, Cond.code yX9_isLetter cX9_isLetter 2 (some .boolean), Cond.methodLink RX9 144 yX9_isDigit, Cond.instanceMethod yX9_isDigit, Cond.selects RX9 yX9_isDigit yX9_isDigit, Cond.code yX9_isDigit cX9_isDigit 2 (some .boolean)]
def wsX9_core_r3 : List Cond := [Cond.methodLink RX9 235 yX9_sign, Cond.instanceMethod yX9_sign, Cond.selects RX9 yX9_sign yX9_sign, Cond.code yX9_sign cX9_sign 2 (some .boolean), Cond.methodLink RX9 243 yX9_began, Cond.static yX9_began, Cond.code yX9_began cX9_began 2 (some .int), Cond.constantLong RX9 199 (1819238756), Cond.constantLong RX9 201 (495874699877), Cond.constantLong RX9 203 (7562612), Cond.constantLong RX9 205 (6382692), Cond.constantLong RX9 207 (439788397413), Cond.constantLong RX9 209 (1937203568), Cond.constantLong RX9 211 (6909539), Cond.constantLong RX9 213 (6513011), Cond.constantLong RX9 215 (26982), Cond.methodLink RX9 247 yX9_instruction, Cond.instanceMethod yX9_instruction, Cond.selects RX9 yX9_instruction yX9_instruction, Cond.code yX9_instruction cX9_instruction 3 (some .boolean), Cond.constantLong RX9 262 (1936419184), Cond.fieldLink RX9 175 "LitmusHallModel" "number" "I", Cond.fieldLink RX9 172 "LitmusHallModel" "numberPlace" "I", Cond.methodLink RX9 232 yX9_cell]
def wsX9_core_r4 : List Cond := [Cond.instanceMethod yX9_cell, Cond.selects RX9 yX9_cell yX9_cell, Cond.code yX9_cell cX9_cell 1 (some .boolean), Cond.methodLink RX9 180 yX9_whole, Cond.instanceMethod yX9_whole, Cond.selects RX9 yX9_whole yX9_whole, Cond.code yX9_whole cX9_whole 2 (some .boolean), Cond.methodLink RX9 183 yX9_tell, Cond.instanceMethod yX9_tell, Cond.selects RX9 yX9_tell yX9_tell, Cond.code yX9_tell cX9_tell 2 none, Cond.methodLink RX9 255 yX9_value, Cond.instanceMethod yX9_value, Cond.selects RX9 yX9_value yX9_value, Cond.code yX9_value cX9_value 3 (some .boolean), Cond.methodLink RX9 193 yX9_isRegister, Cond.instanceMethod yX9_isRegister, Cond.selects RX9 yX9_isRegister yX9_isRegister, Cond.code yX9_isRegister cX9_isRegister 1 (some .boolean), Cond.constantLong RX9 189 (97), Cond.constantLong RX9 191 (99), Cond.methodLink RX9 196 yX9_integer, Cond.instanceMethod yX9_integer, Cond.selects RX9 yX9_integer yX9_integer]
def wsX9_core_r5 : List Cond := [Cond.code yX9_integer cX9_integer 2 (some .boolean), Cond.constantLong RX9 178 (45), Cond.methodLink RX9 259 yX9_register, Cond.instanceMethod yX9_register, Cond.selects RX9 yX9_register yX9_register, Cond.code yX9_register cX9_register 1 (some .boolean), Cond.methodLink RX9 252 yX9_words, Cond.instanceMethod yX9_words, Cond.selects RX9 yX9_words yX9_words, Cond.code yX9_words cX9_words 3 (some .boolean), Cond.methodLink RX9 168 yX9_isWord, Cond.instanceMethod yX9_isWord, Cond.selects RX9 yX9_isWord yX9_isWord, Cond.code yX9_isWord cX9_isWord 3 (some .boolean)]
def wsX9_core : List Cond := .code yX9_core cX9_core 4 (some .boolean) :: ((wsX9_core_r1 ++ (wsX9_core_r2 ++ (wsX9_core_r3 ++ (wsX9_core_r4 ++ wsX9_core_r5)))) ++ wsX90)
def wsX9_text_r1 : List Cond := [Cond.constantLong RX9 230 (1667591276), Cond.fieldLink RX9 186 "LitmusHallModel" "place" "I", Cond.fieldLink RX9 175 "LitmusHallModel" "number" "I", Cond.fieldLink RX9 172 "LitmusHallModel" "numberPlace" "I", Cond.fieldLink RX9 40 "LitmusHallModel" "cellInt" "[I", Cond.constantLong RX9 238 (1668248165), Cond.fieldLink RX9 130 "LitmusHallModel" "begin" "I", Cond.fieldLink RX9 7 "LitmusHallModel" "cores" "[I", Cond.fieldLink RX9 137 "LitmusHallModel" "sort" "I", Cond.methodLink RX9 168 yX9_isWord, Cond.instanceMethod yX9_isWord, Cond.selects RX9 yX9_isWord yX9_isWord, Cond.initialized RX9, Cond.code yX9_isWord cX9_isWord 3 (some .boolean), Cond.fieldLink RX9 133 "LitmusHallModel" "word" "J", Cond.methodLink RX9 164 yX9_pass, Cond.instanceMethod yX9_pass, Cond.selects RX9 yX9_pass yX9_pass, Cond.code yX9_pass cX9_pass 1 (some .boolean), Cond.fieldLink RX9 154 "LitmusHallModel" "tokens" "I", Cond.methodLink RX9 157 yX9_stop, Cond.instanceMethod yX9_stop, Cond.selects RX9 yX9_stop yX9_stop, Cond.code yX9_stop cX9_stop 3 (some .boolean)]
def wsX9_text_r2 : List Cond := [Cond.fieldLink RX9 147 "LitmusHallModel" "faultKind" "I", Cond.fieldLink RX9 92 "LitmusHallModel" "faultPlace" "I", Cond.fieldLink RX9 150 "LitmusHallModel" "stopped" "Z", Cond.methodLink RX9 161 yX9_token, Cond.instanceMethod yX9_token, Cond.selects RX9 yX9_token yX9_token, Cond.code yX9_token cX9_token 5 none, Cond.fieldLink RX9 127 "LitmusHallModel" "end" "I", Cond.fieldLink RX9 116 "LitmusHallModel" "taped" "I", Cond.fieldLink RX9 88 "LitmusHallModel" "tape" "[B", Cond.methodLink RX9 123 yX9_seen, Cond.instanceMethod yX9_seen, Cond.selects RX9 yX9_seen yX9_seen, Cond.code yX9_seen cX9_seen 2 (some .int), Cond.methodLink RX9 140 yX9_isLetter, Cond.instanceMethod yX9_isLetter, Cond.selects RX9 yX9_isLetter yX9_isLetter, Cond.code yX9_isLetter cX9_isLetter 2 (some .boolean), Cond.methodLink RX9 144 yX9_isDigit, Cond.instanceMethod yX9_isDigit, Cond.selects RX9 yX9_isDigit yX9_isDigit, Cond.code yX9_isDigit cX9_isDigit 2 (some .boolean), Cond.methodLink RX9 232 yX9_cell, Cond.instanceMethod yX9_cell]
def wsX9_text_r3 : List Cond := [Cond.selects RX9 yX9_cell yX9_cell, Cond.code yX9_cell cX9_cell 1 (some .boolean), Cond.fieldLink RX9 19 "LitmusHallModel" "cellOf" "[I", Cond.methodLink RX9 180 yX9_whole, Cond.instanceMethod yX9_whole, Cond.selects RX9 yX9_whole yX9_whole, Cond.code yX9_whole cX9_whole 2 (some .boolean), Cond.methodLink RX9 183 yX9_tell, Cond.instanceMethod yX9_tell, Cond.selects RX9 yX9_tell yX9_tell, Cond.code yX9_tell cX9_tell 2 none, Cond.methodLink RX9 235 yX9_sign, Cond.instanceMethod yX9_sign, Cond.selects RX9 yX9_sign yX9_sign, Cond.code yX9_sign cX9_sign 2 (some .boolean), Cond.methodLink RX9 196 yX9_integer, Cond.instanceMethod yX9_integer, Cond.selects RX9 yX9_integer yX9_integer, Cond.code yX9_integer cX9_integer 2 (some .boolean), Cond.constantLong RX9 178 (45), Cond.methodLink RX9 240 yX9_core, Cond.instanceMethod yX9_core, Cond.selects RX9 yX9_core yX9_core, Cond.code yX9_core cX9_core 4 (some .boolean)]
def wsX9_text_r4 : List Cond := [Cond.fieldLink RX9 16 "LitmusHallModel" "kind" "[I", Cond.fieldLink RX9 22 "LitmusHallModel" "regOf" "[I", Cond.fieldLink RX9 25 "LitmusHallModel" "valReg" "[I", Cond.fieldLink RX9 28 "LitmusHallModel" "valInt" "[I", Cond.fieldLink RX9 31 "LitmusHallModel" "val2Reg" "[I", Cond.fieldLink RX9 34 "LitmusHallModel" "val2Int" "[I", Cond.fieldLink RX9 37 "LitmusHallModel" "skip" "[I", Cond.fieldLink RX9 95 "LitmusHallModel" "skipPlace" "[I", Cond.constantLong RX9 250 (6647396), Cond.fieldLink RX9 13 "LitmusHallModel" "many" "[I", Cond.methodLink RX9 243 yX9_began, Cond.static yX9_began, Cond.code yX9_began cX9_began 2 (some .int), Cond.constantLong RX9 199 (1819238756), Cond.constantLong RX9 201 (495874699877), Cond.constantLong RX9 203 (7562612), Cond.constantLong RX9 205 (6382692), Cond.constantLong RX9 207 (439788397413), Cond.constantLong RX9 209 (1937203568), Cond.constantLong RX9 211 (6909539), Cond.constantLong RX9 213 (6513011), Cond.constantLong RX9 215 (26982), Cond.methodLink RX9 247 yX9_instruction, Cond.instanceMethod yX9_instruction]
def wsX9_text_r5 : List Cond := [Cond.selects RX9 yX9_instruction yX9_instruction, Cond.code yX9_instruction cX9_instruction 3 (some .boolean), Cond.constantLong RX9 262 (1936419184), Cond.methodLink RX9 255 yX9_value, Cond.instanceMethod yX9_value, Cond.selects RX9 yX9_value yX9_value, Cond.code yX9_value cX9_value 3 (some .boolean), Cond.methodLink RX9 193 yX9_isRegister, Cond.instanceMethod yX9_isRegister, Cond.selects RX9 yX9_isRegister yX9_isRegister, Cond.code yX9_isRegister cX9_isRegister 1 (some .boolean), Cond.constantLong RX9 189 (97), Cond.constantLong RX9 191 (99), Cond.methodLink RX9 259 yX9_register, Cond.instanceMethod yX9_register, Cond.selects RX9 yX9_register yX9_register, Cond.code yX9_register cX9_register 1 (some .boolean), Cond.methodLink RX9 252 yX9_words, Cond.instanceMethod yX9_words, Cond.selects RX9 yX9_words yX9_words, Cond.code yX9_words cX9_words 3 (some .boolean)]
def wsX9_text : List Cond := .code yX9_text cX9_text 3 (some .boolean) :: ((wsX9_text_r1 ++ (wsX9_text_r2 ++ (wsX9_text_r3 ++ (wsX9_text_r4 ++ wsX9_text_r5)))) ++ wsX90)
def wsX9_copyIns : List Cond := .code yX9_copyIns cX9_copyIns 3 none :: ([.fieldLink RX9 16 "LitmusHallModel" "kind" "[I", .fieldLink RX9 19 "LitmusHallModel" "cellOf" "[I", .fieldLink RX9 22 "LitmusHallModel" "regOf" "[I", .fieldLink RX9 25 "LitmusHallModel" "valReg" "[I", .fieldLink RX9 28 "LitmusHallModel" "valInt" "[I", .fieldLink RX9 31 "LitmusHallModel" "val2Reg" "[I", .fieldLink RX9 34 "LitmusHallModel" "val2Int" "[I", .fieldLink RX9 37 "LitmusHallModel" "skip" "[I"] ++ wsX90)
def wsX9_copyProgram : List Cond := .code yX9_copyProgram cX9_copyProgram 5 none :: ([.fieldLink RX9 7 "LitmusHallModel" "cores" "[I", .fieldLink RX9 13 "LitmusHallModel" "many" "[I", .methodLink RX9 264 yX9_copyIns, .instanceMethod yX9_copyIns, .selects RX9 yX9_copyIns yX9_copyIns, .initialized RX9, .code yX9_copyIns cX9_copyIns 3 none, .fieldLink RX9 16 "LitmusHallModel" "kind" "[I", .fieldLink RX9 19 "LitmusHallModel" "cellOf" "[I", .fieldLink RX9 22 "LitmusHallModel" "regOf" "[I", .fieldLink RX9 25 "LitmusHallModel" "valReg" "[I", .fieldLink RX9 28 "LitmusHallModel" "valInt" "[I", .fieldLink RX9 31 "LitmusHallModel" "val2Reg" "[I", .fieldLink RX9 34 "LitmusHallModel" "val2Int" "[I", .fieldLink RX9 37 "LitmusHallModel" "skip" "[I"] ++ wsX90)
def wsX9_read_r1 : List Cond := [Cond.fieldLink RX9 147 "LitmusHallModel" "faultKind" "I", Cond.fieldLink RX9 92 "LitmusHallModel" "faultPlace" "I", Cond.fieldLink RX9 150 "LitmusHallModel" "stopped" "Z", Cond.fieldLink RX9 127 "LitmusHallModel" "end" "I", Cond.fieldLink RX9 154 "LitmusHallModel" "tokens" "I", Cond.fieldLink RX9 7 "LitmusHallModel" "cores" "[I", Cond.fieldLink RX9 40 "LitmusHallModel" "cellInt" "[I", Cond.fieldLink RX9 116 "LitmusHallModel" "taped" "I", Cond.fieldLink RX9 224 "LitmusHallModel" "isProgram" "Z", Cond.fieldLink RX9 84 "LitmusHallModel" "machineMode" "I", Cond.fieldLink RX9 227 "LitmusHallModel" "done" "I", Cond.fieldLink RX9 66 "LitmusHallModel" "isDone" "[Z", Cond.fieldLink RX9 98 "LitmusHallModel" "racing" "I", Cond.fieldLink RX9 104 "LitmusHallModel" "cureMany" "I", Cond.methodLink RX9 161 yX9_token, Cond.instanceMethod yX9_token, Cond.selects RX9 yX9_token yX9_token, Cond.initialized RX9, Cond.code yX9_token cX9_token 5 none, Cond.fieldLink RX9 88 "LitmusHallModel" "tape" "[B", Cond.fieldLink RX9 130 "LitmusHallModel" "begin" "I", Cond.fieldLink RX9 133 "LitmusHallModel" "word" "J", Cond.fieldLink RX9 137 "LitmusHallModel" "sort" "I", Cond.methodLink RX9 123 yX9_seen]
def wsX9_read_r2 : List Cond := [Cond.instanceMethod yX9_seen, Cond.selects RX9 yX9_seen yX9_seen, Cond.code yX9_seen cX9_seen 2 (some .int), Cond.methodLink RX9 140 yX9_isLetter, Cond.instanceMethod yX9_isLetter, Cond.selects RX9 yX9_isLetter yX9_isLetter, Cond.code yX9_isLetter cX9_isLetter 2 (some .boolean), Cond.methodLink RX9 144 yX9_isDigit, Cond.instanceMethod yX9_isDigit, Cond.selects RX9 yX9_isDigit yX9_isDigit, Cond.code yX9_isDigit cX9_isDigit 2 (some .boolean), Cond.methodLink RX9 217 yX9_text, Cond.instanceMethod yX9_text, Cond.selects RX9 yX9_text yX9_text, Cond.code yX9_text cX9_text 3 (some .boolean), Cond.constantLong RX9 230 (1667591276), Cond.fieldLink RX9 186 "LitmusHallModel" "place" "I", Cond.fieldLink RX9 175 "LitmusHallModel" "number" "I", Cond.fieldLink RX9 172 "LitmusHallModel" "numberPlace" "I", Cond.constantLong RX9 238 (1668248165), Cond.methodLink RX9 168 yX9_isWord, Cond.instanceMethod yX9_isWord, Cond.selects RX9 yX9_isWord yX9_isWord, Cond.code yX9_isWord cX9_isWord 3 (some .boolean)]
def wsX9_read_r3 : List Cond := [Cond.methodLink RX9 164 yX9_pass, Cond.instanceMethod yX9_pass, Cond.selects RX9 yX9_pass yX9_pass, Cond.code yX9_pass cX9_pass 1 (some .boolean), Cond.methodLink RX9 157 yX9_stop, Cond.instanceMethod yX9_stop, Cond.selects RX9 yX9_stop yX9_stop, Cond.code yX9_stop cX9_stop 3 (some .boolean), Cond.methodLink RX9 232 yX9_cell, Cond.instanceMethod yX9_cell, Cond.selects RX9 yX9_cell yX9_cell, Cond.code yX9_cell cX9_cell 1 (some .boolean), Cond.fieldLink RX9 19 "LitmusHallModel" "cellOf" "[I", Cond.methodLink RX9 180 yX9_whole, Cond.instanceMethod yX9_whole, Cond.selects RX9 yX9_whole yX9_whole, Cond.code yX9_whole cX9_whole 2 (some .boolean), Cond.methodLink RX9 183 yX9_tell, Cond.instanceMethod yX9_tell, Cond.selects RX9 yX9_tell yX9_tell, Cond.code yX9_tell cX9_tell 2 none, Cond.methodLink RX9 235 yX9_sign, Cond.instanceMethod yX9_sign, Cond.selects RX9 yX9_sign yX9_sign]
def wsX9_read_r4 : List Cond := [Cond.code yX9_sign cX9_sign 2 (some .boolean), Cond.methodLink RX9 196 yX9_integer, Cond.instanceMethod yX9_integer, Cond.selects RX9 yX9_integer yX9_integer, Cond.code yX9_integer cX9_integer 2 (some .boolean), Cond.constantLong RX9 178 (45), Cond.methodLink RX9 240 yX9_core, Cond.instanceMethod yX9_core, Cond.selects RX9 yX9_core yX9_core, Cond.code yX9_core cX9_core 4 (some .boolean), Cond.fieldLink RX9 16 "LitmusHallModel" "kind" "[I", Cond.fieldLink RX9 22 "LitmusHallModel" "regOf" "[I", Cond.fieldLink RX9 25 "LitmusHallModel" "valReg" "[I", Cond.fieldLink RX9 28 "LitmusHallModel" "valInt" "[I", Cond.fieldLink RX9 31 "LitmusHallModel" "val2Reg" "[I", Cond.fieldLink RX9 34 "LitmusHallModel" "val2Int" "[I", Cond.fieldLink RX9 37 "LitmusHallModel" "skip" "[I", Cond.fieldLink RX9 95 "LitmusHallModel" "skipPlace" "[I", Cond.constantLong RX9 250 (6647396), Cond.fieldLink RX9 13 "LitmusHallModel" "many" "[I", Cond.methodLink RX9 243 yX9_began, Cond.static yX9_began, Cond.code yX9_began cX9_began 2 (some .int), Cond.constantLong RX9 199 (1819238756)]
def wsX9_read_r5 : List Cond := [Cond.constantLong RX9 201 (495874699877), Cond.constantLong RX9 203 (7562612), Cond.constantLong RX9 205 (6382692), Cond.constantLong RX9 207 (439788397413), Cond.constantLong RX9 209 (1937203568), Cond.constantLong RX9 211 (6909539), Cond.constantLong RX9 213 (6513011), Cond.constantLong RX9 215 (26982), Cond.methodLink RX9 247 yX9_instruction, Cond.instanceMethod yX9_instruction, Cond.selects RX9 yX9_instruction yX9_instruction, Cond.code yX9_instruction cX9_instruction 3 (some .boolean), Cond.constantLong RX9 262 (1936419184), Cond.methodLink RX9 255 yX9_value, Cond.instanceMethod yX9_value, Cond.selects RX9 yX9_value yX9_value, Cond.code yX9_value cX9_value 3 (some .boolean), Cond.methodLink RX9 193 yX9_isRegister, Cond.instanceMethod yX9_isRegister, Cond.selects RX9 yX9_isRegister yX9_isRegister, Cond.code yX9_isRegister cX9_isRegister 1 (some .boolean), Cond.constantLong RX9 189 (97), Cond.constantLong RX9 191 (99), Cond.methodLink RX9 259 yX9_register]
def wsX9_read_r6 : List Cond := [Cond.instanceMethod yX9_register, Cond.selects RX9 yX9_register yX9_register, Cond.code yX9_register cX9_register 1 (some .boolean), Cond.methodLink RX9 252 yX9_words, Cond.instanceMethod yX9_words, Cond.selects RX9 yX9_words yX9_words, Cond.code yX9_words cX9_words 3 (some .boolean), Cond.methodLink RX9 220 yX9_copyProgram, Cond.instanceMethod yX9_copyProgram, Cond.selects RX9 yX9_copyProgram yX9_copyProgram, Cond.code yX9_copyProgram cX9_copyProgram 5 none, Cond.methodLink RX9 264 yX9_copyIns, Cond.instanceMethod yX9_copyIns, Cond.selects RX9 yX9_copyIns yX9_copyIns, Cond.code yX9_copyIns cX9_copyIns 3 none]
def wsX9_read : List Cond := .code yX9_read cX9_read 3 (some .int) :: ((wsX9_read_r1 ++ (wsX9_read_r2 ++ (wsX9_read_r3 ++ (wsX9_read_r4 ++ (wsX9_read_r5 ++ wsX9_read_r6))))) ++ wsX90)
def wsX9_place : List Cond := .code yX9_place cX9_place 1 (some .int) :: ([.fieldLink RX9 92 "LitmusHallModel" "faultPlace" "I"] ++ wsX90)
def wsX9_ins : List Cond := .code yX9_ins cX9_ins 5 (some .int) :: ([.fieldLink RX9 224 "LitmusHallModel" "isProgram" "Z", .fieldLink RX9 7 "LitmusHallModel" "cores" "[I", .fieldLink RX9 13 "LitmusHallModel" "many" "[I", .fieldLink RX9 16 "LitmusHallModel" "kind" "[I", .fieldLink RX9 19 "LitmusHallModel" "cellOf" "[I", .fieldLink RX9 22 "LitmusHallModel" "regOf" "[I", .fieldLink RX9 25 "LitmusHallModel" "valReg" "[I", .fieldLink RX9 28 "LitmusHallModel" "valInt" "[I", .fieldLink RX9 31 "LitmusHallModel" "val2Reg" "[I", .fieldLink RX9 34 "LitmusHallModel" "val2Int" "[I", .fieldLink RX9 37 "LitmusHallModel" "skip" "[I"] ++ wsX90)
def wsX9_rowAt : List Cond := .code yX9_rowAt cX9_rowAt 1 (some .int) :: ([])
def wsX9_can : List Cond := .code yX9_can cX9_can 6 (some .boolean) :: ([.fieldLink RX9 7 "LitmusHallModel" "cores" "[I", .fieldLink RX9 75 "LitmusHallModel" "now" "[I", .fieldLink RX9 13 "LitmusHallModel" "many" "[I", .fieldLink RX9 16 "LitmusHallModel" "kind" "[I", .methodLink RX9 267 yX9_rowAt, .static yX9_rowAt, .initialized RX9, .code yX9_rowAt cX9_rowAt 1 (some .int)] ++ wsX90)
def wsX9_taken : List Cond := .code yX9_taken cX9_taken 4 (some .int) :: ([.fieldLink RX9 75 "LitmusHallModel" "now" "[I"] ++ wsX90)
def wsX9_loaded : List Cond := .code yX9_loaded cX9_loaded 5 (some .int) :: ([.fieldLink RX9 75 "LitmusHallModel" "now" "[I", .methodLink RX9 267 yX9_rowAt, .static yX9_rowAt, .initialized RX9, .code yX9_rowAt cX9_rowAt 1 (some .int)] ++ wsX90)
def wsX9_goes : List Cond := .code yX9_goes cX9_goes 4 none :: ([.fieldLink RX9 75 "LitmusHallModel" "now" "[I", .methodLink RX9 267 yX9_rowAt, .static yX9_rowAt, .initialized RX9, .code yX9_rowAt cX9_rowAt 1 (some .int)] ++ wsX90)
def wsX9_put : List Cond := .code yX9_put cX9_put 6 none :: ([.fieldLink RX9 75 "LitmusHallModel" "now" "[I", .methodLink RX9 267 yX9_rowAt, .static yX9_rowAt, .initialized RX9, .code yX9_rowAt cX9_rowAt 1 (some .int)] ++ wsX90)
def wsX9_locked : List Cond := .code yX9_locked cX9_locked 7 none :: ([.fieldLink RX9 75 "LitmusHallModel" "now" "[I"] ++ wsX90)
def wsX9_does_r1 : List Cond := [Cond.fieldLink RX9 75 "LitmusHallModel" "now" "[I", Cond.fieldLink RX9 22 "LitmusHallModel" "regOf" "[I", Cond.fieldLink RX9 19 "LitmusHallModel" "cellOf" "[I", Cond.fieldLink RX9 25 "LitmusHallModel" "valReg" "[I", Cond.fieldLink RX9 28 "LitmusHallModel" "valInt" "[I", Cond.fieldLink RX9 31 "LitmusHallModel" "val2Reg" "[I", Cond.fieldLink RX9 34 "LitmusHallModel" "val2Int" "[I", Cond.fieldLink RX9 16 "LitmusHallModel" "kind" "[I", Cond.fieldLink RX9 37 "LitmusHallModel" "skip" "[I", Cond.methodLink RX9 270 yX9_goes, Cond.instanceMethod yX9_goes, Cond.selects RX9 yX9_goes yX9_goes, Cond.initialized RX9, Cond.code yX9_goes cX9_goes 4 none, Cond.methodLink RX9 267 yX9_rowAt, Cond.static yX9_rowAt, Cond.code yX9_rowAt cX9_rowAt 1 (some .int), Cond.methodLink RX9 273 yX9_taken, Cond.instanceMethod yX9_taken, Cond.selects RX9 yX9_taken yX9_taken, Cond.code yX9_taken cX9_taken 4 (some .int), Cond.methodLink RX9 277 yX9_loaded, Cond.instanceMethod yX9_loaded, Cond.selects RX9 yX9_loaded yX9_loaded]
def wsX9_does_r2 : List Cond := [Cond.code yX9_loaded cX9_loaded 5 (some .int), Cond.methodLink RX9 281 yX9_put, Cond.instanceMethod yX9_put, Cond.selects RX9 yX9_put yX9_put, Cond.code yX9_put cX9_put 6 none, Cond.methodLink RX9 285 yX9_locked, Cond.instanceMethod yX9_locked, Cond.selects RX9 yX9_locked yX9_locked, Cond.code yX9_locked cX9_locked 7 none]
def wsX9_does : List Cond := .code yX9_does cX9_does 11 none :: ((wsX9_does_r1 ++ wsX9_does_r2) ++ wsX90)
def wsX9_isEnd : List Cond := .code yX9_isEnd cX9_isEnd 5 (some .boolean) :: ([.fieldLink RX9 7 "LitmusHallModel" "cores" "[I", .fieldLink RX9 13 "LitmusHallModel" "many" "[I", .methodLink RX9 267 yX9_rowAt, .static yX9_rowAt, .initialized RX9, .code yX9_rowAt cX9_rowAt 1 (some .int)] ++ wsX90)
def wsX9_sum : List Cond := .code yX9_sum cX9_sum 5 (some .int) :: ([.constantLong RX9 289 (7), .constantLong RX9 291 (1000003)])
def wsX9_isNow : List Cond := .code yX9_isNow cX9_isNow 5 (some .boolean) :: ([.fieldLink RX9 44 "LitmusHallModel" "state" "[I", .fieldLink RX9 75 "LitmusHallModel" "now" "[I"] ++ wsX90)
def wsX9_comes : List Cond := .code yX9_comes cX9_comes 7 (some .boolean) :: ([.fieldLink RX9 75 "LitmusHallModel" "now" "[I", .fieldLink RX9 56 "LitmusHallModel" "head" "[I", .fieldLink RX9 53 "LitmusHallModel" "next" "[I", .fieldLink RX9 59 "LitmusHallModel" "states" "[I", .fieldLink RX9 44 "LitmusHallModel" "state" "[I", .fieldLink RX9 47 "LitmusHallModel" "from" "[I", .fieldLink RX9 50 "LitmusHallModel" "by" "[I", .methodLink RX9 293 yX9_sum, .static yX9_sum, .initialized RX9, .code yX9_sum cX9_sum 5 (some .int), .constantLong RX9 289 (7), .constantLong RX9 291 (1000003), .methodLink RX9 297 yX9_isNow, .instanceMethod yX9_isNow, .selects RX9 yX9_isNow yX9_isNow, .code yX9_isNow cX9_isNow 5 (some .boolean)] ++ wsX90)
def wsX9_first : List Cond := .code yX9_first cX9_first 2 none :: ([.fieldLink RX9 75 "LitmusHallModel" "now" "[I", .fieldLink RX9 40 "LitmusHallModel" "cellInt" "[I"] ++ wsX90)
def wsX9_at : List Cond := .code yX9_at cX9_at 4 none :: ([.fieldLink RX9 75 "LitmusHallModel" "now" "[I", .fieldLink RX9 44 "LitmusHallModel" "state" "[I"] ++ wsX90)
def wsX9_told : List Cond := .code yX9_told cX9_told 4 (some .int) :: ([.fieldLink RX9 44 "LitmusHallModel" "state" "[I"] ++ wsX90)
def wsX9_compare : List Cond := .code yX9_compare cX9_compare 8 (some .int) :: ([.methodLink RX9 324 yX9_told, .instanceMethod yX9_told, .selects RX9 yX9_told yX9_told, .initialized RX9, .code yX9_told cX9_told 4 (some .int), .fieldLink RX9 44 "LitmusHallModel" "state" "[I"] ++ wsX90)
def wsX9_sink : List Cond := .code yX9_sink cX9_sink 8 none :: ([.fieldLink RX9 69 "LitmusHallModel" "ends" "[I", .methodLink RX9 327 yX9_compare, .instanceMethod yX9_compare, .selects RX9 yX9_compare yX9_compare, .initialized RX9, .code yX9_compare cX9_compare 8 (some .int), .methodLink RX9 324 yX9_told, .instanceMethod yX9_told, .selects RX9 yX9_told yX9_told, .code yX9_told cX9_told 4 (some .int), .fieldLink RX9 44 "LitmusHallModel" "state" "[I"] ++ wsX90)
def wsX9_sortEnds : List Cond := .code yX9_sortEnds cX9_sortEnds 5 none :: ([.fieldLink RX9 72 "LitmusHallModel" "endMany" "[I", .fieldLink RX9 69 "LitmusHallModel" "ends" "[I", .methodLink RX9 331 yX9_sink, .instanceMethod yX9_sink, .selects RX9 yX9_sink yX9_sink, .initialized RX9, .code yX9_sink cX9_sink 8 none, .methodLink RX9 327 yX9_compare, .instanceMethod yX9_compare, .selects RX9 yX9_compare yX9_compare, .code yX9_compare cX9_compare 8 (some .int), .methodLink RX9 324 yX9_told, .instanceMethod yX9_told, .selects RX9 yX9_told yX9_told, .code yX9_told cX9_told 4 (some .int), .fieldLink RX9 44 "LitmusHallModel" "state" "[I"] ++ wsX90)
def wsX9_explore_r1 : List Cond := [Cond.fieldLink RX9 66 "LitmusHallModel" "isDone" "[Z", Cond.fieldLink RX9 62 "LitmusHallModel" "isFull" "[Z", Cond.fieldLink RX9 59 "LitmusHallModel" "states" "[I", Cond.fieldLink RX9 72 "LitmusHallModel" "endMany" "[I", Cond.fieldLink RX9 56 "LitmusHallModel" "head" "[I", Cond.fieldLink RX9 44 "LitmusHallModel" "state" "[I", Cond.fieldLink RX9 69 "LitmusHallModel" "ends" "[I", Cond.methodLink RX9 300 yX9_first, Cond.instanceMethod yX9_first, Cond.selects RX9 yX9_first yX9_first, Cond.initialized RX9, Cond.code yX9_first cX9_first 2 none, Cond.fieldLink RX9 75 "LitmusHallModel" "now" "[I", Cond.fieldLink RX9 40 "LitmusHallModel" "cellInt" "[I", Cond.methodLink RX9 303 yX9_comes, Cond.instanceMethod yX9_comes, Cond.selects RX9 yX9_comes yX9_comes, Cond.code yX9_comes cX9_comes 7 (some .boolean), Cond.fieldLink RX9 53 "LitmusHallModel" "next" "[I", Cond.fieldLink RX9 47 "LitmusHallModel" "from" "[I", Cond.fieldLink RX9 50 "LitmusHallModel" "by" "[I", Cond.methodLink RX9 293 yX9_sum, Cond.static yX9_sum, Cond.code yX9_sum cX9_sum 5 (some .int)]
def wsX9_explore_r2 : List Cond := [Cond.constantLong RX9 289 (7), Cond.constantLong RX9 291 (1000003), Cond.methodLink RX9 297 yX9_isNow, Cond.instanceMethod yX9_isNow, Cond.selects RX9 yX9_isNow yX9_isNow, Cond.code yX9_isNow cX9_isNow 5 (some .boolean), Cond.methodLink RX9 307 yX9_at, Cond.instanceMethod yX9_at, Cond.selects RX9 yX9_at yX9_at, Cond.code yX9_at cX9_at 4 none, Cond.methodLink RX9 310 yX9_can, Cond.instanceMethod yX9_can, Cond.selects RX9 yX9_can yX9_can, Cond.code yX9_can cX9_can 6 (some .boolean), Cond.fieldLink RX9 7 "LitmusHallModel" "cores" "[I", Cond.fieldLink RX9 13 "LitmusHallModel" "many" "[I", Cond.fieldLink RX9 16 "LitmusHallModel" "kind" "[I", Cond.methodLink RX9 267 yX9_rowAt, Cond.static yX9_rowAt, Cond.code yX9_rowAt cX9_rowAt 1 (some .int), Cond.methodLink RX9 313 yX9_does, Cond.instanceMethod yX9_does, Cond.selects RX9 yX9_does yX9_does, Cond.code yX9_does cX9_does 11 none]
def wsX9_explore_r3 : List Cond := [Cond.fieldLink RX9 22 "LitmusHallModel" "regOf" "[I", Cond.fieldLink RX9 19 "LitmusHallModel" "cellOf" "[I", Cond.fieldLink RX9 25 "LitmusHallModel" "valReg" "[I", Cond.fieldLink RX9 28 "LitmusHallModel" "valInt" "[I", Cond.fieldLink RX9 31 "LitmusHallModel" "val2Reg" "[I", Cond.fieldLink RX9 34 "LitmusHallModel" "val2Int" "[I", Cond.fieldLink RX9 37 "LitmusHallModel" "skip" "[I", Cond.methodLink RX9 270 yX9_goes, Cond.instanceMethod yX9_goes, Cond.selects RX9 yX9_goes yX9_goes, Cond.code yX9_goes cX9_goes 4 none, Cond.methodLink RX9 273 yX9_taken, Cond.instanceMethod yX9_taken, Cond.selects RX9 yX9_taken yX9_taken, Cond.code yX9_taken cX9_taken 4 (some .int), Cond.methodLink RX9 277 yX9_loaded, Cond.instanceMethod yX9_loaded, Cond.selects RX9 yX9_loaded yX9_loaded, Cond.code yX9_loaded cX9_loaded 5 (some .int), Cond.methodLink RX9 281 yX9_put, Cond.instanceMethod yX9_put, Cond.selects RX9 yX9_put yX9_put, Cond.code yX9_put cX9_put 6 none, Cond.methodLink RX9 285 yX9_locked]
def wsX9_explore_r4 : List Cond := [Cond.instanceMethod yX9_locked, Cond.selects RX9 yX9_locked yX9_locked, Cond.code yX9_locked cX9_locked 7 none, Cond.methodLink RX9 317 yX9_isEnd, Cond.instanceMethod yX9_isEnd, Cond.selects RX9 yX9_isEnd yX9_isEnd, Cond.code yX9_isEnd cX9_isEnd 5 (some .boolean), Cond.methodLink RX9 321 yX9_sortEnds, Cond.instanceMethod yX9_sortEnds, Cond.selects RX9 yX9_sortEnds yX9_sortEnds, Cond.code yX9_sortEnds cX9_sortEnds 5 none, Cond.methodLink RX9 331 yX9_sink, Cond.instanceMethod yX9_sink, Cond.selects RX9 yX9_sink yX9_sink, Cond.code yX9_sink cX9_sink 8 none, Cond.methodLink RX9 327 yX9_compare, Cond.instanceMethod yX9_compare, Cond.selects RX9 yX9_compare yX9_compare, Cond.code yX9_compare cX9_compare 8 (some .int), Cond.methodLink RX9 324 yX9_told, Cond.instanceMethod yX9_told, Cond.selects RX9 yX9_told yX9_told, Cond.code yX9_told cX9_told 4 (some .int)]
def wsX9_explore : List Cond := .code yX9_explore cX9_explore 8 none :: ((wsX9_explore_r1 ++ (wsX9_explore_r2 ++ (wsX9_explore_r3 ++ wsX9_explore_r4))) ++ wsX90)
def wsX9_explored_r1 : List Cond := [Cond.fieldLink RX9 66 "LitmusHallModel" "isDone" "[Z", Cond.fieldLink RX9 62 "LitmusHallModel" "isFull" "[Z", Cond.methodLink RX9 335 yX9_explore, Cond.instanceMethod yX9_explore, Cond.selects RX9 yX9_explore yX9_explore, Cond.initialized RX9, Cond.code yX9_explore cX9_explore 8 none, Cond.fieldLink RX9 59 "LitmusHallModel" "states" "[I", Cond.fieldLink RX9 72 "LitmusHallModel" "endMany" "[I", Cond.fieldLink RX9 56 "LitmusHallModel" "head" "[I", Cond.fieldLink RX9 44 "LitmusHallModel" "state" "[I", Cond.fieldLink RX9 69 "LitmusHallModel" "ends" "[I", Cond.methodLink RX9 300 yX9_first, Cond.instanceMethod yX9_first, Cond.selects RX9 yX9_first yX9_first, Cond.code yX9_first cX9_first 2 none, Cond.fieldLink RX9 75 "LitmusHallModel" "now" "[I", Cond.fieldLink RX9 40 "LitmusHallModel" "cellInt" "[I", Cond.methodLink RX9 303 yX9_comes, Cond.instanceMethod yX9_comes, Cond.selects RX9 yX9_comes yX9_comes, Cond.code yX9_comes cX9_comes 7 (some .boolean), Cond.fieldLink RX9 53 "LitmusHallModel" "next" "[I", Cond.fieldLink RX9 47 "LitmusHallModel" "from" "[I"]
def wsX9_explored_r2 : List Cond := [Cond.fieldLink RX9 50 "LitmusHallModel" "by" "[I", Cond.methodLink RX9 293 yX9_sum, Cond.static yX9_sum, Cond.code yX9_sum cX9_sum 5 (some .int), Cond.constantLong RX9 289 (7), Cond.constantLong RX9 291 (1000003), Cond.methodLink RX9 297 yX9_isNow, Cond.instanceMethod yX9_isNow, Cond.selects RX9 yX9_isNow yX9_isNow, Cond.code yX9_isNow cX9_isNow 5 (some .boolean), Cond.methodLink RX9 307 yX9_at, Cond.instanceMethod yX9_at, Cond.selects RX9 yX9_at yX9_at, Cond.code yX9_at cX9_at 4 none, Cond.methodLink RX9 310 yX9_can, Cond.instanceMethod yX9_can, Cond.selects RX9 yX9_can yX9_can, Cond.code yX9_can cX9_can 6 (some .boolean), Cond.fieldLink RX9 7 "LitmusHallModel" "cores" "[I", Cond.fieldLink RX9 13 "LitmusHallModel" "many" "[I", Cond.fieldLink RX9 16 "LitmusHallModel" "kind" "[I", Cond.methodLink RX9 267 yX9_rowAt, Cond.static yX9_rowAt, Cond.code yX9_rowAt cX9_rowAt 1 (some .int)]
def wsX9_explored_r3 : List Cond := [Cond.methodLink RX9 313 yX9_does, Cond.instanceMethod yX9_does, Cond.selects RX9 yX9_does yX9_does, Cond.code yX9_does cX9_does 11 none, Cond.fieldLink RX9 22 "LitmusHallModel" "regOf" "[I", Cond.fieldLink RX9 19 "LitmusHallModel" "cellOf" "[I", Cond.fieldLink RX9 25 "LitmusHallModel" "valReg" "[I", Cond.fieldLink RX9 28 "LitmusHallModel" "valInt" "[I", Cond.fieldLink RX9 31 "LitmusHallModel" "val2Reg" "[I", Cond.fieldLink RX9 34 "LitmusHallModel" "val2Int" "[I", Cond.fieldLink RX9 37 "LitmusHallModel" "skip" "[I", Cond.methodLink RX9 270 yX9_goes, Cond.instanceMethod yX9_goes, Cond.selects RX9 yX9_goes yX9_goes, Cond.code yX9_goes cX9_goes 4 none, Cond.methodLink RX9 273 yX9_taken, Cond.instanceMethod yX9_taken, Cond.selects RX9 yX9_taken yX9_taken, Cond.code yX9_taken cX9_taken 4 (some .int), Cond.methodLink RX9 277 yX9_loaded, Cond.instanceMethod yX9_loaded, Cond.selects RX9 yX9_loaded yX9_loaded, Cond.code yX9_loaded cX9_loaded 5 (some .int), Cond.methodLink RX9 281 yX9_put]
def wsX9_explored_r4 : List Cond := [Cond.instanceMethod yX9_put, Cond.selects RX9 yX9_put yX9_put, Cond.code yX9_put cX9_put 6 none, Cond.methodLink RX9 285 yX9_locked, Cond.instanceMethod yX9_locked, Cond.selects RX9 yX9_locked yX9_locked, Cond.code yX9_locked cX9_locked 7 none, Cond.methodLink RX9 317 yX9_isEnd, Cond.instanceMethod yX9_isEnd, Cond.selects RX9 yX9_isEnd yX9_isEnd, Cond.code yX9_isEnd cX9_isEnd 5 (some .boolean), Cond.methodLink RX9 321 yX9_sortEnds, Cond.instanceMethod yX9_sortEnds, Cond.selects RX9 yX9_sortEnds yX9_sortEnds, Cond.code yX9_sortEnds cX9_sortEnds 5 none, Cond.methodLink RX9 331 yX9_sink, Cond.instanceMethod yX9_sink, Cond.selects RX9 yX9_sink yX9_sink, Cond.code yX9_sink cX9_sink 8 none, Cond.methodLink RX9 327 yX9_compare, Cond.instanceMethod yX9_compare, Cond.selects RX9 yX9_compare yX9_compare, Cond.code yX9_compare cX9_compare 8 (some .int), Cond.methodLink RX9 324 yX9_told]
def wsX9_explored_r5 : List Cond := [Cond.instanceMethod yX9_told, Cond.selects RX9 yX9_told yX9_told, Cond.code yX9_told cX9_told 4 (some .int)]
def wsX9_explored : List Cond := .code yX9_explored cX9_explored 2 (some .boolean) :: ((wsX9_explored_r1 ++ (wsX9_explored_r2 ++ (wsX9_explored_r3 ++ (wsX9_explored_r4 ++ wsX9_explored_r5)))) ++ wsX90)
def wsX9_keepMachine : List Cond := .code yX9_keepMachine cX9_keepMachine 2 none :: ([.fieldLink RX9 78 "LitmusHallModel" "machine" "[I", .fieldLink RX9 75 "LitmusHallModel" "now" "[I"] ++ wsX90)
def wsX9_begin : List Cond := .code yX9_begin cX9_begin 2 (some .boolean) :: ([.fieldLink RX9 224 "LitmusHallModel" "isProgram" "Z", .fieldLink RX9 84 "LitmusHallModel" "machineMode" "I", .fieldLink RX9 227 "LitmusHallModel" "done" "I", .methodLink RX9 300 yX9_first, .instanceMethod yX9_first, .selects RX9 yX9_first yX9_first, .initialized RX9, .code yX9_first cX9_first 2 none, .fieldLink RX9 75 "LitmusHallModel" "now" "[I", .fieldLink RX9 40 "LitmusHallModel" "cellInt" "[I", .methodLink RX9 338 yX9_keepMachine, .instanceMethod yX9_keepMachine, .selects RX9 yX9_keepMachine yX9_keepMachine, .code yX9_keepMachine cX9_keepMachine 2 none, .fieldLink RX9 78 "LitmusHallModel" "machine" "[I"] ++ wsX90)
def wsX9_takeMachine : List Cond := .code yX9_takeMachine cX9_takeMachine 2 none :: ([.fieldLink RX9 75 "LitmusHallModel" "now" "[I", .fieldLink RX9 78 "LitmusHallModel" "machine" "[I"] ++ wsX90)
def wsX9_step_r1 : List Cond := [Cond.fieldLink RX9 84 "LitmusHallModel" "machineMode" "I", Cond.fieldLink RX9 81 "LitmusHallModel" "history" "[I", Cond.fieldLink RX9 227 "LitmusHallModel" "done" "I", Cond.fieldLink RX9 78 "LitmusHallModel" "machine" "[I", Cond.methodLink RX9 341 yX9_takeMachine, Cond.instanceMethod yX9_takeMachine, Cond.selects RX9 yX9_takeMachine yX9_takeMachine, Cond.initialized RX9, Cond.code yX9_takeMachine cX9_takeMachine 2 none, Cond.fieldLink RX9 75 "LitmusHallModel" "now" "[I", Cond.methodLink RX9 310 yX9_can, Cond.instanceMethod yX9_can, Cond.selects RX9 yX9_can yX9_can, Cond.code yX9_can cX9_can 6 (some .boolean), Cond.fieldLink RX9 7 "LitmusHallModel" "cores" "[I", Cond.fieldLink RX9 13 "LitmusHallModel" "many" "[I", Cond.fieldLink RX9 16 "LitmusHallModel" "kind" "[I", Cond.methodLink RX9 267 yX9_rowAt, Cond.static yX9_rowAt, Cond.code yX9_rowAt cX9_rowAt 1 (some .int), Cond.methodLink RX9 313 yX9_does, Cond.instanceMethod yX9_does, Cond.selects RX9 yX9_does yX9_does, Cond.code yX9_does cX9_does 11 none]
def wsX9_step_r2 : List Cond := [Cond.fieldLink RX9 22 "LitmusHallModel" "regOf" "[I", Cond.fieldLink RX9 19 "LitmusHallModel" "cellOf" "[I", Cond.fieldLink RX9 25 "LitmusHallModel" "valReg" "[I", Cond.fieldLink RX9 28 "LitmusHallModel" "valInt" "[I", Cond.fieldLink RX9 31 "LitmusHallModel" "val2Reg" "[I", Cond.fieldLink RX9 34 "LitmusHallModel" "val2Int" "[I", Cond.fieldLink RX9 37 "LitmusHallModel" "skip" "[I", Cond.methodLink RX9 270 yX9_goes, Cond.instanceMethod yX9_goes, Cond.selects RX9 yX9_goes yX9_goes, Cond.code yX9_goes cX9_goes 4 none, Cond.methodLink RX9 273 yX9_taken, Cond.instanceMethod yX9_taken, Cond.selects RX9 yX9_taken yX9_taken, Cond.code yX9_taken cX9_taken 4 (some .int), Cond.methodLink RX9 277 yX9_loaded, Cond.instanceMethod yX9_loaded, Cond.selects RX9 yX9_loaded yX9_loaded, Cond.code yX9_loaded cX9_loaded 5 (some .int), Cond.methodLink RX9 281 yX9_put, Cond.instanceMethod yX9_put, Cond.selects RX9 yX9_put yX9_put, Cond.code yX9_put cX9_put 6 none, Cond.methodLink RX9 285 yX9_locked]
def wsX9_step_r3 : List Cond := [Cond.instanceMethod yX9_locked, Cond.selects RX9 yX9_locked yX9_locked, Cond.code yX9_locked cX9_locked 7 none, Cond.methodLink RX9 338 yX9_keepMachine, Cond.instanceMethod yX9_keepMachine, Cond.selects RX9 yX9_keepMachine yX9_keepMachine, Cond.code yX9_keepMachine cX9_keepMachine 2 none]
def wsX9_step : List Cond := .code yX9_step cX9_step 3 (some .boolean) :: ((wsX9_step_r1 ++ (wsX9_step_r2 ++ wsX9_step_r3)) ++ wsX90)
def wsX9_undo : List Cond := .code yX9_undo cX9_undo 2 (some .boolean) :: ([.fieldLink RX9 84 "LitmusHallModel" "machineMode" "I", .fieldLink RX9 227 "LitmusHallModel" "done" "I", .fieldLink RX9 78 "LitmusHallModel" "machine" "[I", .fieldLink RX9 81 "LitmusHallModel" "history" "[I"] ++ wsX90)
def wsX9_isCore : List Cond := .code yX9_isCore cX9_isCore 2 (some .boolean) :: ([.fieldLink RX9 84 "LitmusHallModel" "machineMode" "I", .fieldLink RX9 7 "LitmusHallModel" "cores" "[I"] ++ wsX90)
def wsX9_register_ : List Cond := .code yX9_register_ cX9_register_ 3 (some .int) :: ([.fieldLink RX9 78 "LitmusHallModel" "machine" "[I", .methodLink RX9 344 yX9_isCore, .instanceMethod yX9_isCore, .selects RX9 yX9_isCore yX9_isCore, .initialized RX9, .code yX9_isCore cX9_isCore 2 (some .boolean), .fieldLink RX9 84 "LitmusHallModel" "machineMode" "I", .fieldLink RX9 7 "LitmusHallModel" "cores" "[I"] ++ wsX90)
def wsX9_memory : List Cond := .code yX9_memory cX9_memory 2 (some .int) :: ([.fieldLink RX9 84 "LitmusHallModel" "machineMode" "I", .fieldLink RX9 78 "LitmusHallModel" "machine" "[I"] ++ wsX90)
def wsX9_next : List Cond := .code yX9_next cX9_next 2 (some .int) :: ([.fieldLink RX9 78 "LitmusHallModel" "machine" "[I", .methodLink RX9 344 yX9_isCore, .instanceMethod yX9_isCore, .selects RX9 yX9_isCore yX9_isCore, .initialized RX9, .code yX9_isCore cX9_isCore 2 (some .boolean), .fieldLink RX9 84 "LitmusHallModel" "machineMode" "I", .fieldLink RX9 7 "LitmusHallModel" "cores" "[I"] ++ wsX90)
def wsX9_store : List Cond := .code yX9_store cX9_store 4 (some .int) :: ([.fieldLink RX9 78 "LitmusHallModel" "machine" "[I", .methodLink RX9 344 yX9_isCore, .instanceMethod yX9_isCore, .selects RX9 yX9_isCore yX9_isCore, .initialized RX9, .code yX9_isCore cX9_isCore 2 (some .boolean), .fieldLink RX9 84 "LitmusHallModel" "machineMode" "I", .fieldLink RX9 7 "LitmusHallModel" "cores" "[I", .methodLink RX9 267 yX9_rowAt, .static yX9_rowAt, .code yX9_rowAt cX9_rowAt 1 (some .int)] ++ wsX90)
def wsX9_outcomes_r1 : List Cond := [Cond.fieldLink RX9 224 "LitmusHallModel" "isProgram" "Z", Cond.fieldLink RX9 72 "LitmusHallModel" "endMany" "[I", Cond.methodLink RX9 347 yX9_explored, Cond.instanceMethod yX9_explored, Cond.selects RX9 yX9_explored yX9_explored, Cond.initialized RX9, Cond.code yX9_explored cX9_explored 2 (some .boolean), Cond.fieldLink RX9 66 "LitmusHallModel" "isDone" "[Z", Cond.fieldLink RX9 62 "LitmusHallModel" "isFull" "[Z", Cond.methodLink RX9 335 yX9_explore, Cond.instanceMethod yX9_explore, Cond.selects RX9 yX9_explore yX9_explore, Cond.code yX9_explore cX9_explore 8 none, Cond.fieldLink RX9 59 "LitmusHallModel" "states" "[I", Cond.fieldLink RX9 56 "LitmusHallModel" "head" "[I", Cond.fieldLink RX9 44 "LitmusHallModel" "state" "[I", Cond.fieldLink RX9 69 "LitmusHallModel" "ends" "[I", Cond.methodLink RX9 300 yX9_first, Cond.instanceMethod yX9_first, Cond.selects RX9 yX9_first yX9_first, Cond.code yX9_first cX9_first 2 none, Cond.fieldLink RX9 75 "LitmusHallModel" "now" "[I", Cond.fieldLink RX9 40 "LitmusHallModel" "cellInt" "[I", Cond.methodLink RX9 303 yX9_comes]
def wsX9_outcomes_r2 : List Cond := [Cond.instanceMethod yX9_comes, Cond.selects RX9 yX9_comes yX9_comes, Cond.code yX9_comes cX9_comes 7 (some .boolean), Cond.fieldLink RX9 53 "LitmusHallModel" "next" "[I", Cond.fieldLink RX9 47 "LitmusHallModel" "from" "[I", Cond.fieldLink RX9 50 "LitmusHallModel" "by" "[I", Cond.methodLink RX9 293 yX9_sum, Cond.static yX9_sum, Cond.code yX9_sum cX9_sum 5 (some .int), Cond.constantLong RX9 289 (7), Cond.constantLong RX9 291 (1000003), Cond.methodLink RX9 297 yX9_isNow, Cond.instanceMethod yX9_isNow, Cond.selects RX9 yX9_isNow yX9_isNow, Cond.code yX9_isNow cX9_isNow 5 (some .boolean), Cond.methodLink RX9 307 yX9_at, Cond.instanceMethod yX9_at, Cond.selects RX9 yX9_at yX9_at, Cond.code yX9_at cX9_at 4 none, Cond.methodLink RX9 310 yX9_can, Cond.instanceMethod yX9_can, Cond.selects RX9 yX9_can yX9_can, Cond.code yX9_can cX9_can 6 (some .boolean), Cond.fieldLink RX9 7 "LitmusHallModel" "cores" "[I"]
def wsX9_outcomes_r3 : List Cond := [Cond.fieldLink RX9 13 "LitmusHallModel" "many" "[I", Cond.fieldLink RX9 16 "LitmusHallModel" "kind" "[I", Cond.methodLink RX9 267 yX9_rowAt, Cond.static yX9_rowAt, Cond.code yX9_rowAt cX9_rowAt 1 (some .int), Cond.methodLink RX9 313 yX9_does, Cond.instanceMethod yX9_does, Cond.selects RX9 yX9_does yX9_does, Cond.code yX9_does cX9_does 11 none, Cond.fieldLink RX9 22 "LitmusHallModel" "regOf" "[I", Cond.fieldLink RX9 19 "LitmusHallModel" "cellOf" "[I", Cond.fieldLink RX9 25 "LitmusHallModel" "valReg" "[I", Cond.fieldLink RX9 28 "LitmusHallModel" "valInt" "[I", Cond.fieldLink RX9 31 "LitmusHallModel" "val2Reg" "[I", Cond.fieldLink RX9 34 "LitmusHallModel" "val2Int" "[I", Cond.fieldLink RX9 37 "LitmusHallModel" "skip" "[I", Cond.methodLink RX9 270 yX9_goes, Cond.instanceMethod yX9_goes, Cond.selects RX9 yX9_goes yX9_goes, Cond.code yX9_goes cX9_goes 4 none, Cond.methodLink RX9 273 yX9_taken, Cond.instanceMethod yX9_taken, Cond.selects RX9 yX9_taken yX9_taken, Cond.code yX9_taken cX9_taken 4 (some .int)]
def wsX9_outcomes_r4 : List Cond := [Cond.methodLink RX9 277 yX9_loaded, Cond.instanceMethod yX9_loaded, Cond.selects RX9 yX9_loaded yX9_loaded, Cond.code yX9_loaded cX9_loaded 5 (some .int), Cond.methodLink RX9 281 yX9_put, Cond.instanceMethod yX9_put, Cond.selects RX9 yX9_put yX9_put, Cond.code yX9_put cX9_put 6 none, Cond.methodLink RX9 285 yX9_locked, Cond.instanceMethod yX9_locked, Cond.selects RX9 yX9_locked yX9_locked, Cond.code yX9_locked cX9_locked 7 none, Cond.methodLink RX9 317 yX9_isEnd, Cond.instanceMethod yX9_isEnd, Cond.selects RX9 yX9_isEnd yX9_isEnd, Cond.code yX9_isEnd cX9_isEnd 5 (some .boolean), Cond.methodLink RX9 321 yX9_sortEnds, Cond.instanceMethod yX9_sortEnds, Cond.selects RX9 yX9_sortEnds yX9_sortEnds, Cond.code yX9_sortEnds cX9_sortEnds 5 none, Cond.methodLink RX9 331 yX9_sink, Cond.instanceMethod yX9_sink, Cond.selects RX9 yX9_sink yX9_sink, Cond.code yX9_sink cX9_sink 8 none]
def wsX9_outcomes_r5 : List Cond := [Cond.methodLink RX9 327 yX9_compare, Cond.instanceMethod yX9_compare, Cond.selects RX9 yX9_compare yX9_compare, Cond.code yX9_compare cX9_compare 8 (some .int), Cond.methodLink RX9 324 yX9_told, Cond.instanceMethod yX9_told, Cond.selects RX9 yX9_told yX9_told, Cond.code yX9_told cX9_told 4 (some .int)]
def wsX9_outcomes : List Cond := .code yX9_outcomes cX9_outcomes 2 (some .int) :: ((wsX9_outcomes_r1 ++ (wsX9_outcomes_r2 ++ (wsX9_outcomes_r3 ++ (wsX9_outcomes_r4 ++ wsX9_outcomes_r5)))) ++ wsX90)
def wsX9_isOutcome_r1 : List Cond := [Cond.fieldLink RX9 224 "LitmusHallModel" "isProgram" "Z", Cond.fieldLink RX9 72 "LitmusHallModel" "endMany" "[I", Cond.methodLink RX9 347 yX9_explored, Cond.instanceMethod yX9_explored, Cond.selects RX9 yX9_explored yX9_explored, Cond.initialized RX9, Cond.code yX9_explored cX9_explored 2 (some .boolean), Cond.fieldLink RX9 66 "LitmusHallModel" "isDone" "[Z", Cond.fieldLink RX9 62 "LitmusHallModel" "isFull" "[Z", Cond.methodLink RX9 335 yX9_explore, Cond.instanceMethod yX9_explore, Cond.selects RX9 yX9_explore yX9_explore, Cond.code yX9_explore cX9_explore 8 none, Cond.fieldLink RX9 59 "LitmusHallModel" "states" "[I", Cond.fieldLink RX9 56 "LitmusHallModel" "head" "[I", Cond.fieldLink RX9 44 "LitmusHallModel" "state" "[I", Cond.fieldLink RX9 69 "LitmusHallModel" "ends" "[I", Cond.methodLink RX9 300 yX9_first, Cond.instanceMethod yX9_first, Cond.selects RX9 yX9_first yX9_first, Cond.code yX9_first cX9_first 2 none, Cond.fieldLink RX9 75 "LitmusHallModel" "now" "[I", Cond.fieldLink RX9 40 "LitmusHallModel" "cellInt" "[I", Cond.methodLink RX9 303 yX9_comes]
def wsX9_isOutcome_r2 : List Cond := [Cond.instanceMethod yX9_comes, Cond.selects RX9 yX9_comes yX9_comes, Cond.code yX9_comes cX9_comes 7 (some .boolean), Cond.fieldLink RX9 53 "LitmusHallModel" "next" "[I", Cond.fieldLink RX9 47 "LitmusHallModel" "from" "[I", Cond.fieldLink RX9 50 "LitmusHallModel" "by" "[I", Cond.methodLink RX9 293 yX9_sum, Cond.static yX9_sum, Cond.code yX9_sum cX9_sum 5 (some .int), Cond.constantLong RX9 289 (7), Cond.constantLong RX9 291 (1000003), Cond.methodLink RX9 297 yX9_isNow, Cond.instanceMethod yX9_isNow, Cond.selects RX9 yX9_isNow yX9_isNow, Cond.code yX9_isNow cX9_isNow 5 (some .boolean), Cond.methodLink RX9 307 yX9_at, Cond.instanceMethod yX9_at, Cond.selects RX9 yX9_at yX9_at, Cond.code yX9_at cX9_at 4 none, Cond.methodLink RX9 310 yX9_can, Cond.instanceMethod yX9_can, Cond.selects RX9 yX9_can yX9_can, Cond.code yX9_can cX9_can 6 (some .boolean), Cond.fieldLink RX9 7 "LitmusHallModel" "cores" "[I"]
def wsX9_isOutcome_r3 : List Cond := [Cond.fieldLink RX9 13 "LitmusHallModel" "many" "[I", Cond.fieldLink RX9 16 "LitmusHallModel" "kind" "[I", Cond.methodLink RX9 267 yX9_rowAt, Cond.static yX9_rowAt, Cond.code yX9_rowAt cX9_rowAt 1 (some .int), Cond.methodLink RX9 313 yX9_does, Cond.instanceMethod yX9_does, Cond.selects RX9 yX9_does yX9_does, Cond.code yX9_does cX9_does 11 none, Cond.fieldLink RX9 22 "LitmusHallModel" "regOf" "[I", Cond.fieldLink RX9 19 "LitmusHallModel" "cellOf" "[I", Cond.fieldLink RX9 25 "LitmusHallModel" "valReg" "[I", Cond.fieldLink RX9 28 "LitmusHallModel" "valInt" "[I", Cond.fieldLink RX9 31 "LitmusHallModel" "val2Reg" "[I", Cond.fieldLink RX9 34 "LitmusHallModel" "val2Int" "[I", Cond.fieldLink RX9 37 "LitmusHallModel" "skip" "[I", Cond.methodLink RX9 270 yX9_goes, Cond.instanceMethod yX9_goes, Cond.selects RX9 yX9_goes yX9_goes, Cond.code yX9_goes cX9_goes 4 none, Cond.methodLink RX9 273 yX9_taken, Cond.instanceMethod yX9_taken, Cond.selects RX9 yX9_taken yX9_taken, Cond.code yX9_taken cX9_taken 4 (some .int)]
def wsX9_isOutcome_r4 : List Cond := [Cond.methodLink RX9 277 yX9_loaded, Cond.instanceMethod yX9_loaded, Cond.selects RX9 yX9_loaded yX9_loaded, Cond.code yX9_loaded cX9_loaded 5 (some .int), Cond.methodLink RX9 281 yX9_put, Cond.instanceMethod yX9_put, Cond.selects RX9 yX9_put yX9_put, Cond.code yX9_put cX9_put 6 none, Cond.methodLink RX9 285 yX9_locked, Cond.instanceMethod yX9_locked, Cond.selects RX9 yX9_locked yX9_locked, Cond.code yX9_locked cX9_locked 7 none, Cond.methodLink RX9 317 yX9_isEnd, Cond.instanceMethod yX9_isEnd, Cond.selects RX9 yX9_isEnd yX9_isEnd, Cond.code yX9_isEnd cX9_isEnd 5 (some .boolean), Cond.methodLink RX9 321 yX9_sortEnds, Cond.instanceMethod yX9_sortEnds, Cond.selects RX9 yX9_sortEnds yX9_sortEnds, Cond.code yX9_sortEnds cX9_sortEnds 5 none, Cond.methodLink RX9 331 yX9_sink, Cond.instanceMethod yX9_sink, Cond.selects RX9 yX9_sink yX9_sink, Cond.code yX9_sink cX9_sink 8 none]
def wsX9_isOutcome_r5 : List Cond := [Cond.methodLink RX9 327 yX9_compare, Cond.instanceMethod yX9_compare, Cond.selects RX9 yX9_compare yX9_compare, Cond.code yX9_compare cX9_compare 8 (some .int), Cond.methodLink RX9 324 yX9_told, Cond.instanceMethod yX9_told, Cond.selects RX9 yX9_told yX9_told, Cond.code yX9_told cX9_told 4 (some .int)]
def wsX9_isOutcome : List Cond := .code yX9_isOutcome cX9_isOutcome 3 (some .boolean) :: ((wsX9_isOutcome_r1 ++ (wsX9_isOutcome_r2 ++ (wsX9_isOutcome_r3 ++ (wsX9_isOutcome_r4 ++ wsX9_isOutcome_r5)))) ++ wsX90)
def wsX9_outcome_r1 : List Cond := [Cond.fieldLink RX9 69 "LitmusHallModel" "ends" "[I", Cond.methodLink RX9 350 yX9_isOutcome, Cond.instanceMethod yX9_isOutcome, Cond.selects RX9 yX9_isOutcome yX9_isOutcome, Cond.initialized RX9, Cond.code yX9_isOutcome cX9_isOutcome 3 (some .boolean), Cond.fieldLink RX9 224 "LitmusHallModel" "isProgram" "Z", Cond.fieldLink RX9 72 "LitmusHallModel" "endMany" "[I", Cond.methodLink RX9 347 yX9_explored, Cond.instanceMethod yX9_explored, Cond.selects RX9 yX9_explored yX9_explored, Cond.code yX9_explored cX9_explored 2 (some .boolean), Cond.fieldLink RX9 66 "LitmusHallModel" "isDone" "[Z", Cond.fieldLink RX9 62 "LitmusHallModel" "isFull" "[Z", Cond.methodLink RX9 335 yX9_explore, Cond.instanceMethod yX9_explore, Cond.selects RX9 yX9_explore yX9_explore, Cond.code yX9_explore cX9_explore 8 none, Cond.fieldLink RX9 59 "LitmusHallModel" "states" "[I", Cond.fieldLink RX9 56 "LitmusHallModel" "head" "[I", Cond.fieldLink RX9 44 "LitmusHallModel" "state" "[I", Cond.methodLink RX9 300 yX9_first, Cond.instanceMethod yX9_first, Cond.selects RX9 yX9_first yX9_first]
def wsX9_outcome_r2 : List Cond := [Cond.code yX9_first cX9_first 2 none, Cond.fieldLink RX9 75 "LitmusHallModel" "now" "[I", Cond.fieldLink RX9 40 "LitmusHallModel" "cellInt" "[I", Cond.methodLink RX9 303 yX9_comes, Cond.instanceMethod yX9_comes, Cond.selects RX9 yX9_comes yX9_comes, Cond.code yX9_comes cX9_comes 7 (some .boolean), Cond.fieldLink RX9 53 "LitmusHallModel" "next" "[I", Cond.fieldLink RX9 47 "LitmusHallModel" "from" "[I", Cond.fieldLink RX9 50 "LitmusHallModel" "by" "[I", Cond.methodLink RX9 293 yX9_sum, Cond.static yX9_sum, Cond.code yX9_sum cX9_sum 5 (some .int), Cond.constantLong RX9 289 (7), Cond.constantLong RX9 291 (1000003), Cond.methodLink RX9 297 yX9_isNow, Cond.instanceMethod yX9_isNow, Cond.selects RX9 yX9_isNow yX9_isNow, Cond.code yX9_isNow cX9_isNow 5 (some .boolean), Cond.methodLink RX9 307 yX9_at, Cond.instanceMethod yX9_at, Cond.selects RX9 yX9_at yX9_at, Cond.code yX9_at cX9_at 4 none, Cond.methodLink RX9 310 yX9_can]
def wsX9_outcome_r3 : List Cond := [Cond.instanceMethod yX9_can, Cond.selects RX9 yX9_can yX9_can, Cond.code yX9_can cX9_can 6 (some .boolean), Cond.fieldLink RX9 7 "LitmusHallModel" "cores" "[I", Cond.fieldLink RX9 13 "LitmusHallModel" "many" "[I", Cond.fieldLink RX9 16 "LitmusHallModel" "kind" "[I", Cond.methodLink RX9 267 yX9_rowAt, Cond.static yX9_rowAt, Cond.code yX9_rowAt cX9_rowAt 1 (some .int), Cond.methodLink RX9 313 yX9_does, Cond.instanceMethod yX9_does, Cond.selects RX9 yX9_does yX9_does, Cond.code yX9_does cX9_does 11 none, Cond.fieldLink RX9 22 "LitmusHallModel" "regOf" "[I", Cond.fieldLink RX9 19 "LitmusHallModel" "cellOf" "[I", Cond.fieldLink RX9 25 "LitmusHallModel" "valReg" "[I", Cond.fieldLink RX9 28 "LitmusHallModel" "valInt" "[I", Cond.fieldLink RX9 31 "LitmusHallModel" "val2Reg" "[I", Cond.fieldLink RX9 34 "LitmusHallModel" "val2Int" "[I", Cond.fieldLink RX9 37 "LitmusHallModel" "skip" "[I", Cond.methodLink RX9 270 yX9_goes, Cond.instanceMethod yX9_goes, Cond.selects RX9 yX9_goes yX9_goes, Cond.code yX9_goes cX9_goes 4 none]
def wsX9_outcome_r4 : List Cond := [Cond.methodLink RX9 273 yX9_taken, Cond.instanceMethod yX9_taken, Cond.selects RX9 yX9_taken yX9_taken, Cond.code yX9_taken cX9_taken 4 (some .int), Cond.methodLink RX9 277 yX9_loaded, Cond.instanceMethod yX9_loaded, Cond.selects RX9 yX9_loaded yX9_loaded, Cond.code yX9_loaded cX9_loaded 5 (some .int), Cond.methodLink RX9 281 yX9_put, Cond.instanceMethod yX9_put, Cond.selects RX9 yX9_put yX9_put, Cond.code yX9_put cX9_put 6 none, Cond.methodLink RX9 285 yX9_locked, Cond.instanceMethod yX9_locked, Cond.selects RX9 yX9_locked yX9_locked, Cond.code yX9_locked cX9_locked 7 none, Cond.methodLink RX9 317 yX9_isEnd, Cond.instanceMethod yX9_isEnd, Cond.selects RX9 yX9_isEnd yX9_isEnd, Cond.code yX9_isEnd cX9_isEnd 5 (some .boolean), Cond.methodLink RX9 321 yX9_sortEnds, Cond.instanceMethod yX9_sortEnds, Cond.selects RX9 yX9_sortEnds yX9_sortEnds, Cond.code yX9_sortEnds cX9_sortEnds 5 none]
def wsX9_outcome_r5 : List Cond := [Cond.methodLink RX9 331 yX9_sink, Cond.instanceMethod yX9_sink, Cond.selects RX9 yX9_sink yX9_sink, Cond.code yX9_sink cX9_sink 8 none, Cond.methodLink RX9 327 yX9_compare, Cond.instanceMethod yX9_compare, Cond.selects RX9 yX9_compare yX9_compare, Cond.code yX9_compare cX9_compare 8 (some .int), Cond.methodLink RX9 324 yX9_told, Cond.instanceMethod yX9_told, Cond.selects RX9 yX9_told yX9_told, Cond.code yX9_told cX9_told 4 (some .int)]
def wsX9_outcome : List Cond := .code yX9_outcome cX9_outcome 4 (some .int) :: ((wsX9_outcome_r1 ++ (wsX9_outcome_r2 ++ (wsX9_outcome_r3 ++ (wsX9_outcome_r4 ++ wsX9_outcome_r5)))) ++ wsX90)
def wsX9_stepOf : List Cond := .code yX9_stepOf cX9_stepOf 7 (some .int) :: ([.fieldLink RX9 47 "LitmusHallModel" "from" "[I", .fieldLink RX9 50 "LitmusHallModel" "by" "[I"] ++ wsX90)
def wsX9_schedule_r1 : List Cond := [Cond.fieldLink RX9 69 "LitmusHallModel" "ends" "[I", Cond.methodLink RX9 350 yX9_isOutcome, Cond.instanceMethod yX9_isOutcome, Cond.selects RX9 yX9_isOutcome yX9_isOutcome, Cond.initialized RX9, Cond.code yX9_isOutcome cX9_isOutcome 3 (some .boolean), Cond.fieldLink RX9 224 "LitmusHallModel" "isProgram" "Z", Cond.fieldLink RX9 72 "LitmusHallModel" "endMany" "[I", Cond.methodLink RX9 347 yX9_explored, Cond.instanceMethod yX9_explored, Cond.selects RX9 yX9_explored yX9_explored, Cond.code yX9_explored cX9_explored 2 (some .boolean), Cond.fieldLink RX9 66 "LitmusHallModel" "isDone" "[Z", Cond.fieldLink RX9 62 "LitmusHallModel" "isFull" "[Z", Cond.methodLink RX9 335 yX9_explore, Cond.instanceMethod yX9_explore, Cond.selects RX9 yX9_explore yX9_explore, Cond.code yX9_explore cX9_explore 8 none, Cond.fieldLink RX9 59 "LitmusHallModel" "states" "[I", Cond.fieldLink RX9 56 "LitmusHallModel" "head" "[I", Cond.fieldLink RX9 44 "LitmusHallModel" "state" "[I", Cond.methodLink RX9 300 yX9_first, Cond.instanceMethod yX9_first, Cond.selects RX9 yX9_first yX9_first]
def wsX9_schedule_r2 : List Cond := [Cond.code yX9_first cX9_first 2 none, Cond.fieldLink RX9 75 "LitmusHallModel" "now" "[I", Cond.fieldLink RX9 40 "LitmusHallModel" "cellInt" "[I", Cond.methodLink RX9 303 yX9_comes, Cond.instanceMethod yX9_comes, Cond.selects RX9 yX9_comes yX9_comes, Cond.code yX9_comes cX9_comes 7 (some .boolean), Cond.fieldLink RX9 53 "LitmusHallModel" "next" "[I", Cond.fieldLink RX9 47 "LitmusHallModel" "from" "[I", Cond.fieldLink RX9 50 "LitmusHallModel" "by" "[I", Cond.methodLink RX9 293 yX9_sum, Cond.static yX9_sum, Cond.code yX9_sum cX9_sum 5 (some .int), Cond.constantLong RX9 289 (7), Cond.constantLong RX9 291 (1000003), Cond.methodLink RX9 297 yX9_isNow, Cond.instanceMethod yX9_isNow, Cond.selects RX9 yX9_isNow yX9_isNow, Cond.code yX9_isNow cX9_isNow 5 (some .boolean), Cond.methodLink RX9 307 yX9_at, Cond.instanceMethod yX9_at, Cond.selects RX9 yX9_at yX9_at, Cond.code yX9_at cX9_at 4 none, Cond.methodLink RX9 310 yX9_can]
def wsX9_schedule_r3 : List Cond := [Cond.instanceMethod yX9_can, Cond.selects RX9 yX9_can yX9_can, Cond.code yX9_can cX9_can 6 (some .boolean), Cond.fieldLink RX9 7 "LitmusHallModel" "cores" "[I", Cond.fieldLink RX9 13 "LitmusHallModel" "many" "[I", Cond.fieldLink RX9 16 "LitmusHallModel" "kind" "[I", Cond.methodLink RX9 267 yX9_rowAt, Cond.static yX9_rowAt, Cond.code yX9_rowAt cX9_rowAt 1 (some .int), Cond.methodLink RX9 313 yX9_does, Cond.instanceMethod yX9_does, Cond.selects RX9 yX9_does yX9_does, Cond.code yX9_does cX9_does 11 none, Cond.fieldLink RX9 22 "LitmusHallModel" "regOf" "[I", Cond.fieldLink RX9 19 "LitmusHallModel" "cellOf" "[I", Cond.fieldLink RX9 25 "LitmusHallModel" "valReg" "[I", Cond.fieldLink RX9 28 "LitmusHallModel" "valInt" "[I", Cond.fieldLink RX9 31 "LitmusHallModel" "val2Reg" "[I", Cond.fieldLink RX9 34 "LitmusHallModel" "val2Int" "[I", Cond.fieldLink RX9 37 "LitmusHallModel" "skip" "[I", Cond.methodLink RX9 270 yX9_goes, Cond.instanceMethod yX9_goes, Cond.selects RX9 yX9_goes yX9_goes, Cond.code yX9_goes cX9_goes 4 none]
def wsX9_schedule_r4 : List Cond := [Cond.methodLink RX9 273 yX9_taken, Cond.instanceMethod yX9_taken, Cond.selects RX9 yX9_taken yX9_taken, Cond.code yX9_taken cX9_taken 4 (some .int), Cond.methodLink RX9 277 yX9_loaded, Cond.instanceMethod yX9_loaded, Cond.selects RX9 yX9_loaded yX9_loaded, Cond.code yX9_loaded cX9_loaded 5 (some .int), Cond.methodLink RX9 281 yX9_put, Cond.instanceMethod yX9_put, Cond.selects RX9 yX9_put yX9_put, Cond.code yX9_put cX9_put 6 none, Cond.methodLink RX9 285 yX9_locked, Cond.instanceMethod yX9_locked, Cond.selects RX9 yX9_locked yX9_locked, Cond.code yX9_locked cX9_locked 7 none, Cond.methodLink RX9 317 yX9_isEnd, Cond.instanceMethod yX9_isEnd, Cond.selects RX9 yX9_isEnd yX9_isEnd, Cond.code yX9_isEnd cX9_isEnd 5 (some .boolean), Cond.methodLink RX9 321 yX9_sortEnds, Cond.instanceMethod yX9_sortEnds, Cond.selects RX9 yX9_sortEnds yX9_sortEnds, Cond.code yX9_sortEnds cX9_sortEnds 5 none]
def wsX9_schedule_r5 : List Cond := [Cond.methodLink RX9 331 yX9_sink, Cond.instanceMethod yX9_sink, Cond.selects RX9 yX9_sink yX9_sink, Cond.code yX9_sink cX9_sink 8 none, Cond.methodLink RX9 327 yX9_compare, Cond.instanceMethod yX9_compare, Cond.selects RX9 yX9_compare yX9_compare, Cond.code yX9_compare cX9_compare 8 (some .int), Cond.methodLink RX9 324 yX9_told, Cond.instanceMethod yX9_told, Cond.selects RX9 yX9_told yX9_told, Cond.code yX9_told cX9_told 4 (some .int), Cond.methodLink RX9 353 yX9_stepOf, Cond.instanceMethod yX9_stepOf, Cond.selects RX9 yX9_stepOf yX9_stepOf, Cond.code yX9_stepOf cX9_stepOf 7 (some .int)]
def wsX9_schedule : List Cond := .code yX9_schedule cX9_schedule 4 (some .int) :: ((wsX9_schedule_r1 ++ (wsX9_schedule_r2 ++ (wsX9_schedule_r3 ++ (wsX9_schedule_r4 ++ wsX9_schedule_r5)))) ++ wsX90)
def wsX9_isWithout : List Cond := .code yX9_isWithout cX9_isWithout 3 (some .boolean) :: ([.fieldLink RX9 72 "LitmusHallModel" "endMany" "[I", .fieldLink RX9 69 "LitmusHallModel" "ends" "[I", .methodLink RX9 327 yX9_compare, .instanceMethod yX9_compare, .selects RX9 yX9_compare yX9_compare, .initialized RX9, .code yX9_compare cX9_compare 8 (some .int), .methodLink RX9 324 yX9_told, .instanceMethod yX9_told, .selects RX9 yX9_told yX9_told, .code yX9_told cX9_told 4 (some .int), .fieldLink RX9 44 "LitmusHallModel" "state" "[I"] ++ wsX90)
def wsX9_more_r1 : List Cond := [Cond.fieldLink RX9 224 "LitmusHallModel" "isProgram" "Z", Cond.fieldLink RX9 72 "LitmusHallModel" "endMany" "[I", Cond.methodLink RX9 347 yX9_explored, Cond.instanceMethod yX9_explored, Cond.selects RX9 yX9_explored yX9_explored, Cond.initialized RX9, Cond.code yX9_explored cX9_explored 2 (some .boolean), Cond.fieldLink RX9 66 "LitmusHallModel" "isDone" "[Z", Cond.fieldLink RX9 62 "LitmusHallModel" "isFull" "[Z", Cond.methodLink RX9 335 yX9_explore, Cond.instanceMethod yX9_explore, Cond.selects RX9 yX9_explore yX9_explore, Cond.code yX9_explore cX9_explore 8 none, Cond.fieldLink RX9 59 "LitmusHallModel" "states" "[I", Cond.fieldLink RX9 56 "LitmusHallModel" "head" "[I", Cond.fieldLink RX9 44 "LitmusHallModel" "state" "[I", Cond.fieldLink RX9 69 "LitmusHallModel" "ends" "[I", Cond.methodLink RX9 300 yX9_first, Cond.instanceMethod yX9_first, Cond.selects RX9 yX9_first yX9_first, Cond.code yX9_first cX9_first 2 none, Cond.fieldLink RX9 75 "LitmusHallModel" "now" "[I", Cond.fieldLink RX9 40 "LitmusHallModel" "cellInt" "[I", Cond.methodLink RX9 303 yX9_comes]
def wsX9_more_r2 : List Cond := [Cond.instanceMethod yX9_comes, Cond.selects RX9 yX9_comes yX9_comes, Cond.code yX9_comes cX9_comes 7 (some .boolean), Cond.fieldLink RX9 53 "LitmusHallModel" "next" "[I", Cond.fieldLink RX9 47 "LitmusHallModel" "from" "[I", Cond.fieldLink RX9 50 "LitmusHallModel" "by" "[I", Cond.methodLink RX9 293 yX9_sum, Cond.static yX9_sum, Cond.code yX9_sum cX9_sum 5 (some .int), Cond.constantLong RX9 289 (7), Cond.constantLong RX9 291 (1000003), Cond.methodLink RX9 297 yX9_isNow, Cond.instanceMethod yX9_isNow, Cond.selects RX9 yX9_isNow yX9_isNow, Cond.code yX9_isNow cX9_isNow 5 (some .boolean), Cond.methodLink RX9 307 yX9_at, Cond.instanceMethod yX9_at, Cond.selects RX9 yX9_at yX9_at, Cond.code yX9_at cX9_at 4 none, Cond.methodLink RX9 310 yX9_can, Cond.instanceMethod yX9_can, Cond.selects RX9 yX9_can yX9_can, Cond.code yX9_can cX9_can 6 (some .boolean), Cond.fieldLink RX9 7 "LitmusHallModel" "cores" "[I"]
def wsX9_more_r3 : List Cond := [Cond.fieldLink RX9 13 "LitmusHallModel" "many" "[I", Cond.fieldLink RX9 16 "LitmusHallModel" "kind" "[I", Cond.methodLink RX9 267 yX9_rowAt, Cond.static yX9_rowAt, Cond.code yX9_rowAt cX9_rowAt 1 (some .int), Cond.methodLink RX9 313 yX9_does, Cond.instanceMethod yX9_does, Cond.selects RX9 yX9_does yX9_does, Cond.code yX9_does cX9_does 11 none, Cond.fieldLink RX9 22 "LitmusHallModel" "regOf" "[I", Cond.fieldLink RX9 19 "LitmusHallModel" "cellOf" "[I", Cond.fieldLink RX9 25 "LitmusHallModel" "valReg" "[I", Cond.fieldLink RX9 28 "LitmusHallModel" "valInt" "[I", Cond.fieldLink RX9 31 "LitmusHallModel" "val2Reg" "[I", Cond.fieldLink RX9 34 "LitmusHallModel" "val2Int" "[I", Cond.fieldLink RX9 37 "LitmusHallModel" "skip" "[I", Cond.methodLink RX9 270 yX9_goes, Cond.instanceMethod yX9_goes, Cond.selects RX9 yX9_goes yX9_goes, Cond.code yX9_goes cX9_goes 4 none, Cond.methodLink RX9 273 yX9_taken, Cond.instanceMethod yX9_taken, Cond.selects RX9 yX9_taken yX9_taken, Cond.code yX9_taken cX9_taken 4 (some .int)]
def wsX9_more_r4 : List Cond := [Cond.methodLink RX9 277 yX9_loaded, Cond.instanceMethod yX9_loaded, Cond.selects RX9 yX9_loaded yX9_loaded, Cond.code yX9_loaded cX9_loaded 5 (some .int), Cond.methodLink RX9 281 yX9_put, Cond.instanceMethod yX9_put, Cond.selects RX9 yX9_put yX9_put, Cond.code yX9_put cX9_put 6 none, Cond.methodLink RX9 285 yX9_locked, Cond.instanceMethod yX9_locked, Cond.selects RX9 yX9_locked yX9_locked, Cond.code yX9_locked cX9_locked 7 none, Cond.methodLink RX9 317 yX9_isEnd, Cond.instanceMethod yX9_isEnd, Cond.selects RX9 yX9_isEnd yX9_isEnd, Cond.code yX9_isEnd cX9_isEnd 5 (some .boolean), Cond.methodLink RX9 321 yX9_sortEnds, Cond.instanceMethod yX9_sortEnds, Cond.selects RX9 yX9_sortEnds yX9_sortEnds, Cond.code yX9_sortEnds cX9_sortEnds 5 none, Cond.methodLink RX9 331 yX9_sink, Cond.instanceMethod yX9_sink, Cond.selects RX9 yX9_sink yX9_sink, Cond.code yX9_sink cX9_sink 8 none]
def wsX9_more_r5 : List Cond := [Cond.methodLink RX9 327 yX9_compare, Cond.instanceMethod yX9_compare, Cond.selects RX9 yX9_compare yX9_compare, Cond.code yX9_compare cX9_compare 8 (some .int), Cond.methodLink RX9 324 yX9_told, Cond.instanceMethod yX9_told, Cond.selects RX9 yX9_told yX9_told, Cond.code yX9_told cX9_told 4 (some .int), Cond.methodLink RX9 356 yX9_isWithout, Cond.instanceMethod yX9_isWithout, Cond.selects RX9 yX9_isWithout yX9_isWithout, Cond.code yX9_isWithout cX9_isWithout 3 (some .boolean)]
def wsX9_more : List Cond := .code yX9_more cX9_more 5 (some .int) :: ((wsX9_more_r1 ++ (wsX9_more_r2 ++ (wsX9_more_r3 ++ (wsX9_more_r4 ++ wsX9_more_r5)))) ++ wsX90)
def wsX9_nextOf : List Cond := .code yX9_nextOf cX9_nextOf 4 (some .int) :: ([.fieldLink RX9 44 "LitmusHallModel" "state" "[I", .fieldLink RX9 7 "LitmusHallModel" "cores" "[I", .fieldLink RX9 13 "LitmusHallModel" "many" "[I"] ++ wsX90)
def wsX9_isRace : List Cond := .code yX9_isRace cX9_isRace 8 (some .boolean) :: ([.fieldLink RX9 16 "LitmusHallModel" "kind" "[I", .fieldLink RX9 19 "LitmusHallModel" "cellOf" "[I", .fieldLink RX9 44 "LitmusHallModel" "state" "[I", .fieldLink RX9 362 "LitmusHallModel" "raceR" "I", .fieldLink RX9 365 "LitmusHallModel" "raceW" "I", .fieldLink RX9 368 "LitmusHallModel" "raceX" "I", .methodLink RX9 359 yX9_nextOf, .instanceMethod yX9_nextOf, .selects RX9 yX9_nextOf yX9_nextOf, .initialized RX9, .code yX9_nextOf cX9_nextOf 4 (some .int), .fieldLink RX9 7 "LitmusHallModel" "cores" "[I", .fieldLink RX9 13 "LitmusHallModel" "many" "[I"] ++ wsX90)
def wsX9_race_r1 : List Cond := [Cond.fieldLink RX9 224 "LitmusHallModel" "isProgram" "Z", Cond.fieldLink RX9 98 "LitmusHallModel" "racing" "I", Cond.fieldLink RX9 62 "LitmusHallModel" "isFull" "[Z", Cond.fieldLink RX9 59 "LitmusHallModel" "states" "[I", Cond.fieldLink RX9 374 "LitmusHallModel" "raceSteps" "I", Cond.fieldLink RX9 101 "LitmusHallModel" "raceStep" "[I", Cond.methodLink RX9 335 yX9_explore, Cond.instanceMethod yX9_explore, Cond.selects RX9 yX9_explore yX9_explore, Cond.initialized RX9, Cond.code yX9_explore cX9_explore 8 none, Cond.fieldLink RX9 66 "LitmusHallModel" "isDone" "[Z", Cond.fieldLink RX9 72 "LitmusHallModel" "endMany" "[I", Cond.fieldLink RX9 56 "LitmusHallModel" "head" "[I", Cond.fieldLink RX9 44 "LitmusHallModel" "state" "[I", Cond.fieldLink RX9 69 "LitmusHallModel" "ends" "[I", Cond.methodLink RX9 300 yX9_first, Cond.instanceMethod yX9_first, Cond.selects RX9 yX9_first yX9_first, Cond.code yX9_first cX9_first 2 none, Cond.fieldLink RX9 75 "LitmusHallModel" "now" "[I", Cond.fieldLink RX9 40 "LitmusHallModel" "cellInt" "[I", Cond.methodLink RX9 303 yX9_comes, Cond.instanceMethod yX9_comes]
def wsX9_race_r2 : List Cond := [Cond.selects RX9 yX9_comes yX9_comes, Cond.code yX9_comes cX9_comes 7 (some .boolean), Cond.fieldLink RX9 53 "LitmusHallModel" "next" "[I", Cond.fieldLink RX9 47 "LitmusHallModel" "from" "[I", Cond.fieldLink RX9 50 "LitmusHallModel" "by" "[I", Cond.methodLink RX9 293 yX9_sum, Cond.static yX9_sum, Cond.code yX9_sum cX9_sum 5 (some .int), Cond.constantLong RX9 289 (7), Cond.constantLong RX9 291 (1000003), Cond.methodLink RX9 297 yX9_isNow, Cond.instanceMethod yX9_isNow, Cond.selects RX9 yX9_isNow yX9_isNow, Cond.code yX9_isNow cX9_isNow 5 (some .boolean), Cond.methodLink RX9 307 yX9_at, Cond.instanceMethod yX9_at, Cond.selects RX9 yX9_at yX9_at, Cond.code yX9_at cX9_at 4 none, Cond.methodLink RX9 310 yX9_can, Cond.instanceMethod yX9_can, Cond.selects RX9 yX9_can yX9_can, Cond.code yX9_can cX9_can 6 (some .boolean), Cond.fieldLink RX9 7 "LitmusHallModel" "cores" "[I", Cond.fieldLink RX9 13 "LitmusHallModel" "many" "[I"]
def wsX9_race_r3 : List Cond := [Cond.fieldLink RX9 16 "LitmusHallModel" "kind" "[I", Cond.methodLink RX9 267 yX9_rowAt, Cond.static yX9_rowAt, Cond.code yX9_rowAt cX9_rowAt 1 (some .int), Cond.methodLink RX9 313 yX9_does, Cond.instanceMethod yX9_does, Cond.selects RX9 yX9_does yX9_does, Cond.code yX9_does cX9_does 11 none, Cond.fieldLink RX9 22 "LitmusHallModel" "regOf" "[I", Cond.fieldLink RX9 19 "LitmusHallModel" "cellOf" "[I", Cond.fieldLink RX9 25 "LitmusHallModel" "valReg" "[I", Cond.fieldLink RX9 28 "LitmusHallModel" "valInt" "[I", Cond.fieldLink RX9 31 "LitmusHallModel" "val2Reg" "[I", Cond.fieldLink RX9 34 "LitmusHallModel" "val2Int" "[I", Cond.fieldLink RX9 37 "LitmusHallModel" "skip" "[I", Cond.methodLink RX9 270 yX9_goes, Cond.instanceMethod yX9_goes, Cond.selects RX9 yX9_goes yX9_goes, Cond.code yX9_goes cX9_goes 4 none, Cond.methodLink RX9 273 yX9_taken, Cond.instanceMethod yX9_taken, Cond.selects RX9 yX9_taken yX9_taken, Cond.code yX9_taken cX9_taken 4 (some .int), Cond.methodLink RX9 277 yX9_loaded]
def wsX9_race_r4 : List Cond := [Cond.instanceMethod yX9_loaded, Cond.selects RX9 yX9_loaded yX9_loaded, Cond.code yX9_loaded cX9_loaded 5 (some .int), Cond.methodLink RX9 281 yX9_put, Cond.instanceMethod yX9_put, Cond.selects RX9 yX9_put yX9_put, Cond.code yX9_put cX9_put 6 none, Cond.methodLink RX9 285 yX9_locked, Cond.instanceMethod yX9_locked, Cond.selects RX9 yX9_locked yX9_locked, Cond.code yX9_locked cX9_locked 7 none, Cond.methodLink RX9 317 yX9_isEnd, Cond.instanceMethod yX9_isEnd, Cond.selects RX9 yX9_isEnd yX9_isEnd, Cond.code yX9_isEnd cX9_isEnd 5 (some .boolean), Cond.methodLink RX9 321 yX9_sortEnds, Cond.instanceMethod yX9_sortEnds, Cond.selects RX9 yX9_sortEnds yX9_sortEnds, Cond.code yX9_sortEnds cX9_sortEnds 5 none, Cond.methodLink RX9 331 yX9_sink, Cond.instanceMethod yX9_sink, Cond.selects RX9 yX9_sink yX9_sink, Cond.code yX9_sink cX9_sink 8 none, Cond.methodLink RX9 327 yX9_compare]
def wsX9_race_r5 : List Cond := [Cond.instanceMethod yX9_compare, Cond.selects RX9 yX9_compare yX9_compare, Cond.code yX9_compare cX9_compare 8 (some .int), Cond.methodLink RX9 324 yX9_told, Cond.instanceMethod yX9_told, Cond.selects RX9 yX9_told yX9_told, Cond.code yX9_told cX9_told 4 (some .int), Cond.methodLink RX9 371 yX9_isRace, Cond.instanceMethod yX9_isRace, Cond.selects RX9 yX9_isRace yX9_isRace, Cond.code yX9_isRace cX9_isRace 8 (some .boolean), Cond.fieldLink RX9 362 "LitmusHallModel" "raceR" "I", Cond.fieldLink RX9 365 "LitmusHallModel" "raceW" "I", Cond.fieldLink RX9 368 "LitmusHallModel" "raceX" "I", Cond.methodLink RX9 359 yX9_nextOf, Cond.instanceMethod yX9_nextOf, Cond.selects RX9 yX9_nextOf yX9_nextOf, Cond.code yX9_nextOf cX9_nextOf 4 (some .int), Cond.methodLink RX9 353 yX9_stepOf, Cond.instanceMethod yX9_stepOf, Cond.selects RX9 yX9_stepOf yX9_stepOf, Cond.code yX9_stepOf cX9_stepOf 7 (some .int)]
def wsX9_race : List Cond := .code yX9_race cX9_race 2 (some .int) :: ((wsX9_race_r1 ++ (wsX9_race_r2 ++ (wsX9_race_r3 ++ (wsX9_race_r4 ++ wsX9_race_r5)))) ++ wsX90)
def wsX9_racer_r1 : List Cond := [Cond.fieldLink RX9 224 "LitmusHallModel" "isProgram" "Z", Cond.fieldLink RX9 362 "LitmusHallModel" "raceR" "I", Cond.fieldLink RX9 365 "LitmusHallModel" "raceW" "I", Cond.fieldLink RX9 368 "LitmusHallModel" "raceX" "I", Cond.fieldLink RX9 374 "LitmusHallModel" "raceSteps" "I", Cond.fieldLink RX9 101 "LitmusHallModel" "raceStep" "[I", Cond.methodLink RX9 377 yX9_race, Cond.instanceMethod yX9_race, Cond.selects RX9 yX9_race yX9_race, Cond.initialized RX9, Cond.code yX9_race cX9_race 2 (some .int), Cond.fieldLink RX9 98 "LitmusHallModel" "racing" "I", Cond.fieldLink RX9 62 "LitmusHallModel" "isFull" "[Z", Cond.fieldLink RX9 59 "LitmusHallModel" "states" "[I", Cond.methodLink RX9 335 yX9_explore, Cond.instanceMethod yX9_explore, Cond.selects RX9 yX9_explore yX9_explore, Cond.code yX9_explore cX9_explore 8 none, Cond.fieldLink RX9 66 "LitmusHallModel" "isDone" "[Z", Cond.fieldLink RX9 72 "LitmusHallModel" "endMany" "[I", Cond.fieldLink RX9 56 "LitmusHallModel" "head" "[I", Cond.fieldLink RX9 44 "LitmusHallModel" "state" "[I", Cond.fieldLink RX9 69 "LitmusHallModel" "ends" "[I", Cond.methodLink RX9 300 yX9_first]
def wsX9_racer_r2 : List Cond := [Cond.instanceMethod yX9_first, Cond.selects RX9 yX9_first yX9_first, Cond.code yX9_first cX9_first 2 none, Cond.fieldLink RX9 75 "LitmusHallModel" "now" "[I", Cond.fieldLink RX9 40 "LitmusHallModel" "cellInt" "[I", Cond.methodLink RX9 303 yX9_comes, Cond.instanceMethod yX9_comes, Cond.selects RX9 yX9_comes yX9_comes, Cond.code yX9_comes cX9_comes 7 (some .boolean), Cond.fieldLink RX9 53 "LitmusHallModel" "next" "[I", Cond.fieldLink RX9 47 "LitmusHallModel" "from" "[I", Cond.fieldLink RX9 50 "LitmusHallModel" "by" "[I", Cond.methodLink RX9 293 yX9_sum, Cond.static yX9_sum, Cond.code yX9_sum cX9_sum 5 (some .int), Cond.constantLong RX9 289 (7), Cond.constantLong RX9 291 (1000003), Cond.methodLink RX9 297 yX9_isNow, Cond.instanceMethod yX9_isNow, Cond.selects RX9 yX9_isNow yX9_isNow, Cond.code yX9_isNow cX9_isNow 5 (some .boolean), Cond.methodLink RX9 307 yX9_at, Cond.instanceMethod yX9_at, Cond.selects RX9 yX9_at yX9_at]
def wsX9_racer_r3 : List Cond := [Cond.code yX9_at cX9_at 4 none, Cond.methodLink RX9 310 yX9_can, Cond.instanceMethod yX9_can, Cond.selects RX9 yX9_can yX9_can, Cond.code yX9_can cX9_can 6 (some .boolean), Cond.fieldLink RX9 7 "LitmusHallModel" "cores" "[I", Cond.fieldLink RX9 13 "LitmusHallModel" "many" "[I", Cond.fieldLink RX9 16 "LitmusHallModel" "kind" "[I", Cond.methodLink RX9 267 yX9_rowAt, Cond.static yX9_rowAt, Cond.code yX9_rowAt cX9_rowAt 1 (some .int), Cond.methodLink RX9 313 yX9_does, Cond.instanceMethod yX9_does, Cond.selects RX9 yX9_does yX9_does, Cond.code yX9_does cX9_does 11 none, Cond.fieldLink RX9 22 "LitmusHallModel" "regOf" "[I", Cond.fieldLink RX9 19 "LitmusHallModel" "cellOf" "[I", Cond.fieldLink RX9 25 "LitmusHallModel" "valReg" "[I", Cond.fieldLink RX9 28 "LitmusHallModel" "valInt" "[I", Cond.fieldLink RX9 31 "LitmusHallModel" "val2Reg" "[I", Cond.fieldLink RX9 34 "LitmusHallModel" "val2Int" "[I", Cond.fieldLink RX9 37 "LitmusHallModel" "skip" "[I", Cond.methodLink RX9 270 yX9_goes, Cond.instanceMethod yX9_goes]
def wsX9_racer_r4 : List Cond := [Cond.selects RX9 yX9_goes yX9_goes, Cond.code yX9_goes cX9_goes 4 none, Cond.methodLink RX9 273 yX9_taken, Cond.instanceMethod yX9_taken, Cond.selects RX9 yX9_taken yX9_taken, Cond.code yX9_taken cX9_taken 4 (some .int), Cond.methodLink RX9 277 yX9_loaded, Cond.instanceMethod yX9_loaded, Cond.selects RX9 yX9_loaded yX9_loaded, Cond.code yX9_loaded cX9_loaded 5 (some .int), Cond.methodLink RX9 281 yX9_put, Cond.instanceMethod yX9_put, Cond.selects RX9 yX9_put yX9_put, Cond.code yX9_put cX9_put 6 none, Cond.methodLink RX9 285 yX9_locked, Cond.instanceMethod yX9_locked, Cond.selects RX9 yX9_locked yX9_locked, Cond.code yX9_locked cX9_locked 7 none, Cond.methodLink RX9 317 yX9_isEnd, Cond.instanceMethod yX9_isEnd, Cond.selects RX9 yX9_isEnd yX9_isEnd, Cond.code yX9_isEnd cX9_isEnd 5 (some .boolean), Cond.methodLink RX9 321 yX9_sortEnds, Cond.instanceMethod yX9_sortEnds]
def wsX9_racer_r5 : List Cond := [Cond.selects RX9 yX9_sortEnds yX9_sortEnds, Cond.code yX9_sortEnds cX9_sortEnds 5 none, Cond.methodLink RX9 331 yX9_sink, Cond.instanceMethod yX9_sink, Cond.selects RX9 yX9_sink yX9_sink, Cond.code yX9_sink cX9_sink 8 none, Cond.methodLink RX9 327 yX9_compare, Cond.instanceMethod yX9_compare, Cond.selects RX9 yX9_compare yX9_compare, Cond.code yX9_compare cX9_compare 8 (some .int), Cond.methodLink RX9 324 yX9_told, Cond.instanceMethod yX9_told, Cond.selects RX9 yX9_told yX9_told, Cond.code yX9_told cX9_told 4 (some .int), Cond.methodLink RX9 371 yX9_isRace, Cond.instanceMethod yX9_isRace, Cond.selects RX9 yX9_isRace yX9_isRace, Cond.code yX9_isRace cX9_isRace 8 (some .boolean), Cond.methodLink RX9 359 yX9_nextOf, Cond.instanceMethod yX9_nextOf, Cond.selects RX9 yX9_nextOf yX9_nextOf, Cond.code yX9_nextOf cX9_nextOf 4 (some .int), Cond.methodLink RX9 353 yX9_stepOf, Cond.instanceMethod yX9_stepOf]
def wsX9_racer_r6 : List Cond := [Cond.selects RX9 yX9_stepOf yX9_stepOf, Cond.code yX9_stepOf cX9_stepOf 7 (some .int)]
def wsX9_racer : List Cond := .code yX9_racer cX9_racer 2 (some .int) :: ((wsX9_racer_r1 ++ (wsX9_racer_r2 ++ (wsX9_racer_r3 ++ (wsX9_racer_r4 ++ (wsX9_racer_r5 ++ wsX9_racer_r6))))) ++ wsX90)
def wsX9_findSpots : List Cond := .code yX9_findSpots cX9_findSpots 3 none :: ([.fieldLink RX9 381 "LitmusHallModel" "spots" "I", .fieldLink RX9 7 "LitmusHallModel" "cores" "[I", .fieldLink RX9 13 "LitmusHallModel" "many" "[I", .fieldLink RX9 110 "LitmusHallModel" "spot" "[I"] ++ wsX90)
def wsX9_isPut : List Cond := .code yX9_isPut cX9_isPut 3 (some .boolean) :: ([])
def wsX9_leadsTo : List Cond := .code yX9_leadsTo cX9_leadsTo 8 none :: ([.fieldLink RX9 16 "LitmusHallModel" "kind" "[I", .fieldLink RX9 113 "LitmusHallModel" "moved" "[I", .fieldLink RX9 37 "LitmusHallModel" "skip" "[I", .methodLink RX9 384 yX9_isPut, .static yX9_isPut, .initialized RX9, .code yX9_isPut cX9_isPut 3 (some .boolean)] ++ wsX90)
def wsX9_fenced : List Cond := .code yX9_fenced cX9_fenced 7 none :: ([.fieldLink RX9 7 "LitmusHallModel" "cores" "[I", .fieldLink RX9 13 "LitmusHallModel" "many" "[I", .fieldLink RX9 113 "LitmusHallModel" "moved" "[I", .fieldLink RX9 16 "LitmusHallModel" "kind" "[I", .fieldLink RX9 19 "LitmusHallModel" "cellOf" "[I", .fieldLink RX9 22 "LitmusHallModel" "regOf" "[I", .fieldLink RX9 25 "LitmusHallModel" "valReg" "[I", .fieldLink RX9 31 "LitmusHallModel" "val2Reg" "[I", .methodLink RX9 384 yX9_isPut, .static yX9_isPut, .initialized RX9, .code yX9_isPut cX9_isPut 3 (some .boolean), .methodLink RX9 264 yX9_copyIns, .instanceMethod yX9_copyIns, .selects RX9 yX9_copyIns yX9_copyIns, .code yX9_copyIns cX9_copyIns 3 none, .fieldLink RX9 28 "LitmusHallModel" "valInt" "[I", .fieldLink RX9 34 "LitmusHallModel" "val2Int" "[I", .fieldLink RX9 37 "LitmusHallModel" "skip" "[I", .methodLink RX9 387 yX9_leadsTo, .instanceMethod yX9_leadsTo, .selects RX9 yX9_leadsTo yX9_leadsTo, .code yX9_leadsTo cX9_leadsTo 8 none] ++ wsX90)
def wsX9_cures_r1 : List Cond := [Cond.fieldLink RX9 62 "LitmusHallModel" "isFull" "[Z", Cond.fieldLink RX9 72 "LitmusHallModel" "endMany" "[I", Cond.fieldLink RX9 69 "LitmusHallModel" "ends" "[I", Cond.methodLink RX9 390 yX9_fenced, Cond.instanceMethod yX9_fenced, Cond.selects RX9 yX9_fenced yX9_fenced, Cond.initialized RX9, Cond.code yX9_fenced cX9_fenced 7 none, Cond.fieldLink RX9 7 "LitmusHallModel" "cores" "[I", Cond.fieldLink RX9 13 "LitmusHallModel" "many" "[I", Cond.fieldLink RX9 113 "LitmusHallModel" "moved" "[I", Cond.fieldLink RX9 16 "LitmusHallModel" "kind" "[I", Cond.fieldLink RX9 19 "LitmusHallModel" "cellOf" "[I", Cond.fieldLink RX9 22 "LitmusHallModel" "regOf" "[I", Cond.fieldLink RX9 25 "LitmusHallModel" "valReg" "[I", Cond.fieldLink RX9 31 "LitmusHallModel" "val2Reg" "[I", Cond.methodLink RX9 384 yX9_isPut, Cond.static yX9_isPut, Cond.code yX9_isPut cX9_isPut 3 (some .boolean), Cond.methodLink RX9 264 yX9_copyIns, Cond.instanceMethod yX9_copyIns, Cond.selects RX9 yX9_copyIns yX9_copyIns, Cond.code yX9_copyIns cX9_copyIns 3 none, Cond.fieldLink RX9 28 "LitmusHallModel" "valInt" "[I"]
def wsX9_cures_r2 : List Cond := [Cond.fieldLink RX9 34 "LitmusHallModel" "val2Int" "[I", Cond.fieldLink RX9 37 "LitmusHallModel" "skip" "[I", Cond.methodLink RX9 387 yX9_leadsTo, Cond.instanceMethod yX9_leadsTo, Cond.selects RX9 yX9_leadsTo yX9_leadsTo, Cond.code yX9_leadsTo cX9_leadsTo 8 none, Cond.methodLink RX9 335 yX9_explore, Cond.instanceMethod yX9_explore, Cond.selects RX9 yX9_explore yX9_explore, Cond.code yX9_explore cX9_explore 8 none, Cond.fieldLink RX9 66 "LitmusHallModel" "isDone" "[Z", Cond.fieldLink RX9 59 "LitmusHallModel" "states" "[I", Cond.fieldLink RX9 56 "LitmusHallModel" "head" "[I", Cond.fieldLink RX9 44 "LitmusHallModel" "state" "[I", Cond.methodLink RX9 300 yX9_first, Cond.instanceMethod yX9_first, Cond.selects RX9 yX9_first yX9_first, Cond.code yX9_first cX9_first 2 none, Cond.fieldLink RX9 75 "LitmusHallModel" "now" "[I", Cond.fieldLink RX9 40 "LitmusHallModel" "cellInt" "[I", Cond.methodLink RX9 303 yX9_comes, Cond.instanceMethod yX9_comes, Cond.selects RX9 yX9_comes yX9_comes, Cond.code yX9_comes cX9_comes 7 (some .boolean)]
def wsX9_cures_r3 : List Cond := [Cond.fieldLink RX9 53 "LitmusHallModel" "next" "[I", Cond.fieldLink RX9 47 "LitmusHallModel" "from" "[I", Cond.fieldLink RX9 50 "LitmusHallModel" "by" "[I", Cond.methodLink RX9 293 yX9_sum, Cond.static yX9_sum, Cond.code yX9_sum cX9_sum 5 (some .int), Cond.constantLong RX9 289 (7), Cond.constantLong RX9 291 (1000003), Cond.methodLink RX9 297 yX9_isNow, Cond.instanceMethod yX9_isNow, Cond.selects RX9 yX9_isNow yX9_isNow, Cond.code yX9_isNow cX9_isNow 5 (some .boolean), Cond.methodLink RX9 307 yX9_at, Cond.instanceMethod yX9_at, Cond.selects RX9 yX9_at yX9_at, Cond.code yX9_at cX9_at 4 none, Cond.methodLink RX9 310 yX9_can, Cond.instanceMethod yX9_can, Cond.selects RX9 yX9_can yX9_can, Cond.code yX9_can cX9_can 6 (some .boolean), Cond.methodLink RX9 267 yX9_rowAt, Cond.static yX9_rowAt, Cond.code yX9_rowAt cX9_rowAt 1 (some .int), Cond.methodLink RX9 313 yX9_does]
def wsX9_cures_r4 : List Cond := [Cond.instanceMethod yX9_does, Cond.selects RX9 yX9_does yX9_does, Cond.code yX9_does cX9_does 11 none, Cond.methodLink RX9 270 yX9_goes, Cond.instanceMethod yX9_goes, Cond.selects RX9 yX9_goes yX9_goes, Cond.code yX9_goes cX9_goes 4 none, Cond.methodLink RX9 273 yX9_taken, Cond.instanceMethod yX9_taken, Cond.selects RX9 yX9_taken yX9_taken, Cond.code yX9_taken cX9_taken 4 (some .int), Cond.methodLink RX9 277 yX9_loaded, Cond.instanceMethod yX9_loaded, Cond.selects RX9 yX9_loaded yX9_loaded, Cond.code yX9_loaded cX9_loaded 5 (some .int), Cond.methodLink RX9 281 yX9_put, Cond.instanceMethod yX9_put, Cond.selects RX9 yX9_put yX9_put, Cond.code yX9_put cX9_put 6 none, Cond.methodLink RX9 285 yX9_locked, Cond.instanceMethod yX9_locked, Cond.selects RX9 yX9_locked yX9_locked, Cond.code yX9_locked cX9_locked 7 none, Cond.methodLink RX9 317 yX9_isEnd]
def wsX9_cures_r5 : List Cond := [Cond.instanceMethod yX9_isEnd, Cond.selects RX9 yX9_isEnd yX9_isEnd, Cond.code yX9_isEnd cX9_isEnd 5 (some .boolean), Cond.methodLink RX9 321 yX9_sortEnds, Cond.instanceMethod yX9_sortEnds, Cond.selects RX9 yX9_sortEnds yX9_sortEnds, Cond.code yX9_sortEnds cX9_sortEnds 5 none, Cond.methodLink RX9 331 yX9_sink, Cond.instanceMethod yX9_sink, Cond.selects RX9 yX9_sink yX9_sink, Cond.code yX9_sink cX9_sink 8 none, Cond.methodLink RX9 327 yX9_compare, Cond.instanceMethod yX9_compare, Cond.selects RX9 yX9_compare yX9_compare, Cond.code yX9_compare cX9_compare 8 (some .int), Cond.methodLink RX9 324 yX9_told, Cond.instanceMethod yX9_told, Cond.selects RX9 yX9_told yX9_told, Cond.code yX9_told cX9_told 4 (some .int)]
def wsX9_cures : List Cond := .code yX9_cures cX9_cures 4 (some .int) :: ((wsX9_cures_r1 ++ (wsX9_cures_r2 ++ (wsX9_cures_r3 ++ (wsX9_cures_r4 ++ wsX9_cures_r5)))) ++ wsX90)
def wsX9_cure_r1 : List Cond := [Cond.fieldLink RX9 224 "LitmusHallModel" "isProgram" "Z", Cond.fieldLink RX9 381 "LitmusHallModel" "spots" "I", Cond.fieldLink RX9 110 "LitmusHallModel" "spot" "[I", Cond.fieldLink RX9 104 "LitmusHallModel" "cureMany" "I", Cond.fieldLink RX9 107 "LitmusHallModel" "cure" "[I", Cond.methodLink RX9 347 yX9_explored, Cond.instanceMethod yX9_explored, Cond.selects RX9 yX9_explored yX9_explored, Cond.initialized RX9, Cond.code yX9_explored cX9_explored 2 (some .boolean), Cond.fieldLink RX9 66 "LitmusHallModel" "isDone" "[Z", Cond.fieldLink RX9 62 "LitmusHallModel" "isFull" "[Z", Cond.methodLink RX9 335 yX9_explore, Cond.instanceMethod yX9_explore, Cond.selects RX9 yX9_explore yX9_explore, Cond.code yX9_explore cX9_explore 8 none, Cond.fieldLink RX9 59 "LitmusHallModel" "states" "[I", Cond.fieldLink RX9 72 "LitmusHallModel" "endMany" "[I", Cond.fieldLink RX9 56 "LitmusHallModel" "head" "[I", Cond.fieldLink RX9 44 "LitmusHallModel" "state" "[I", Cond.fieldLink RX9 69 "LitmusHallModel" "ends" "[I", Cond.methodLink RX9 300 yX9_first, Cond.instanceMethod yX9_first, Cond.selects RX9 yX9_first yX9_first]
def wsX9_cure_r2 : List Cond := [Cond.code yX9_first cX9_first 2 none, Cond.fieldLink RX9 75 "LitmusHallModel" "now" "[I", Cond.fieldLink RX9 40 "LitmusHallModel" "cellInt" "[I", Cond.methodLink RX9 303 yX9_comes, Cond.instanceMethod yX9_comes, Cond.selects RX9 yX9_comes yX9_comes, Cond.code yX9_comes cX9_comes 7 (some .boolean), Cond.fieldLink RX9 53 "LitmusHallModel" "next" "[I", Cond.fieldLink RX9 47 "LitmusHallModel" "from" "[I", Cond.fieldLink RX9 50 "LitmusHallModel" "by" "[I", Cond.methodLink RX9 293 yX9_sum, Cond.static yX9_sum, Cond.code yX9_sum cX9_sum 5 (some .int), Cond.constantLong RX9 289 (7), Cond.constantLong RX9 291 (1000003), Cond.methodLink RX9 297 yX9_isNow, Cond.instanceMethod yX9_isNow, Cond.selects RX9 yX9_isNow yX9_isNow, Cond.code yX9_isNow cX9_isNow 5 (some .boolean), Cond.methodLink RX9 307 yX9_at, Cond.instanceMethod yX9_at, Cond.selects RX9 yX9_at yX9_at, Cond.code yX9_at cX9_at 4 none, Cond.methodLink RX9 310 yX9_can]
def wsX9_cure_r3 : List Cond := [Cond.instanceMethod yX9_can, Cond.selects RX9 yX9_can yX9_can, Cond.code yX9_can cX9_can 6 (some .boolean), Cond.fieldLink RX9 7 "LitmusHallModel" "cores" "[I", Cond.fieldLink RX9 13 "LitmusHallModel" "many" "[I", Cond.fieldLink RX9 16 "LitmusHallModel" "kind" "[I", Cond.methodLink RX9 267 yX9_rowAt, Cond.static yX9_rowAt, Cond.code yX9_rowAt cX9_rowAt 1 (some .int), Cond.methodLink RX9 313 yX9_does, Cond.instanceMethod yX9_does, Cond.selects RX9 yX9_does yX9_does, Cond.code yX9_does cX9_does 11 none, Cond.fieldLink RX9 22 "LitmusHallModel" "regOf" "[I", Cond.fieldLink RX9 19 "LitmusHallModel" "cellOf" "[I", Cond.fieldLink RX9 25 "LitmusHallModel" "valReg" "[I", Cond.fieldLink RX9 28 "LitmusHallModel" "valInt" "[I", Cond.fieldLink RX9 31 "LitmusHallModel" "val2Reg" "[I", Cond.fieldLink RX9 34 "LitmusHallModel" "val2Int" "[I", Cond.fieldLink RX9 37 "LitmusHallModel" "skip" "[I", Cond.methodLink RX9 270 yX9_goes, Cond.instanceMethod yX9_goes, Cond.selects RX9 yX9_goes yX9_goes, Cond.code yX9_goes cX9_goes 4 none]
def wsX9_cure_r4 : List Cond := [Cond.methodLink RX9 273 yX9_taken, Cond.instanceMethod yX9_taken, Cond.selects RX9 yX9_taken yX9_taken, Cond.code yX9_taken cX9_taken 4 (some .int), Cond.methodLink RX9 277 yX9_loaded, Cond.instanceMethod yX9_loaded, Cond.selects RX9 yX9_loaded yX9_loaded, Cond.code yX9_loaded cX9_loaded 5 (some .int), Cond.methodLink RX9 281 yX9_put, Cond.instanceMethod yX9_put, Cond.selects RX9 yX9_put yX9_put, Cond.code yX9_put cX9_put 6 none, Cond.methodLink RX9 285 yX9_locked, Cond.instanceMethod yX9_locked, Cond.selects RX9 yX9_locked yX9_locked, Cond.code yX9_locked cX9_locked 7 none, Cond.methodLink RX9 317 yX9_isEnd, Cond.instanceMethod yX9_isEnd, Cond.selects RX9 yX9_isEnd yX9_isEnd, Cond.code yX9_isEnd cX9_isEnd 5 (some .boolean), Cond.methodLink RX9 321 yX9_sortEnds, Cond.instanceMethod yX9_sortEnds, Cond.selects RX9 yX9_sortEnds yX9_sortEnds, Cond.code yX9_sortEnds cX9_sortEnds 5 none]
def wsX9_cure_r5 : List Cond := [Cond.methodLink RX9 331 yX9_sink, Cond.instanceMethod yX9_sink, Cond.selects RX9 yX9_sink yX9_sink, Cond.code yX9_sink cX9_sink 8 none, Cond.methodLink RX9 327 yX9_compare, Cond.instanceMethod yX9_compare, Cond.selects RX9 yX9_compare yX9_compare, Cond.code yX9_compare cX9_compare 8 (some .int), Cond.methodLink RX9 324 yX9_told, Cond.instanceMethod yX9_told, Cond.selects RX9 yX9_told yX9_told, Cond.code yX9_told cX9_told 4 (some .int), Cond.methodLink RX9 393 yX9_findSpots, Cond.instanceMethod yX9_findSpots, Cond.selects RX9 yX9_findSpots yX9_findSpots, Cond.code yX9_findSpots cX9_findSpots 3 none, Cond.methodLink RX9 396 yX9_cures, Cond.instanceMethod yX9_cures, Cond.selects RX9 yX9_cures yX9_cures, Cond.code yX9_cures cX9_cures 4 (some .int), Cond.methodLink RX9 390 yX9_fenced, Cond.instanceMethod yX9_fenced, Cond.selects RX9 yX9_fenced yX9_fenced, Cond.code yX9_fenced cX9_fenced 7 none]
def wsX9_cure_r6 : List Cond := [Cond.fieldLink RX9 113 "LitmusHallModel" "moved" "[I", Cond.methodLink RX9 384 yX9_isPut, Cond.static yX9_isPut, Cond.code yX9_isPut cX9_isPut 3 (some .boolean), Cond.methodLink RX9 264 yX9_copyIns, Cond.instanceMethod yX9_copyIns, Cond.selects RX9 yX9_copyIns yX9_copyIns, Cond.code yX9_copyIns cX9_copyIns 3 none, Cond.methodLink RX9 387 yX9_leadsTo, Cond.instanceMethod yX9_leadsTo, Cond.selects RX9 yX9_leadsTo yX9_leadsTo, Cond.code yX9_leadsTo cX9_leadsTo 8 none]
def wsX9_cure : List Cond := .code yX9_cure cX9_cure 8 (some .int) :: ((wsX9_cure_r1 ++ (wsX9_cure_r2 ++ (wsX9_cure_r3 ++ (wsX9_cure_r4 ++ (wsX9_cure_r5 ++ wsX9_cure_r6))))) ++ wsX90)
def wsX9_cured : List Cond := .code yX9_cured cX9_cured 2 (some .int) :: ([.fieldLink RX9 224 "LitmusHallModel" "isProgram" "Z", .fieldLink RX9 104 "LitmusHallModel" "cureMany" "I", .fieldLink RX9 107 "LitmusHallModel" "cure" "[I"] ++ wsX90)
def wsX9_count_r1 : List Cond := [Cond.fieldLink RX9 116 "LitmusHallModel" "taped" "I", Cond.fieldLink RX9 224 "LitmusHallModel" "isProgram" "Z", Cond.fieldLink RX9 7 "LitmusHallModel" "cores" "[I", Cond.fieldLink RX9 13 "LitmusHallModel" "many" "[I", Cond.fieldLink RX9 59 "LitmusHallModel" "states" "[I", Cond.fieldLink RX9 72 "LitmusHallModel" "endMany" "[I", Cond.fieldLink RX9 84 "LitmusHallModel" "machineMode" "I", Cond.fieldLink RX9 227 "LitmusHallModel" "done" "I", Cond.fieldLink RX9 78 "LitmusHallModel" "machine" "[I", Cond.fieldLink RX9 381 "LitmusHallModel" "spots" "I", Cond.methodLink RX9 347 yX9_explored, Cond.instanceMethod yX9_explored, Cond.selects RX9 yX9_explored yX9_explored, Cond.initialized RX9, Cond.code yX9_explored cX9_explored 2 (some .boolean), Cond.fieldLink RX9 66 "LitmusHallModel" "isDone" "[Z", Cond.fieldLink RX9 62 "LitmusHallModel" "isFull" "[Z", Cond.methodLink RX9 335 yX9_explore, Cond.instanceMethod yX9_explore, Cond.selects RX9 yX9_explore yX9_explore, Cond.code yX9_explore cX9_explore 8 none, Cond.fieldLink RX9 56 "LitmusHallModel" "head" "[I", Cond.fieldLink RX9 44 "LitmusHallModel" "state" "[I", Cond.fieldLink RX9 69 "LitmusHallModel" "ends" "[I"]
def wsX9_count_r2 : List Cond := [Cond.methodLink RX9 300 yX9_first, Cond.instanceMethod yX9_first, Cond.selects RX9 yX9_first yX9_first, Cond.code yX9_first cX9_first 2 none, Cond.fieldLink RX9 75 "LitmusHallModel" "now" "[I", Cond.fieldLink RX9 40 "LitmusHallModel" "cellInt" "[I", Cond.methodLink RX9 303 yX9_comes, Cond.instanceMethod yX9_comes, Cond.selects RX9 yX9_comes yX9_comes, Cond.code yX9_comes cX9_comes 7 (some .boolean), Cond.fieldLink RX9 53 "LitmusHallModel" "next" "[I", Cond.fieldLink RX9 47 "LitmusHallModel" "from" "[I", Cond.fieldLink RX9 50 "LitmusHallModel" "by" "[I", Cond.methodLink RX9 293 yX9_sum, Cond.static yX9_sum, Cond.code yX9_sum cX9_sum 5 (some .int), Cond.constantLong RX9 289 (7), Cond.constantLong RX9 291 (1000003), Cond.methodLink RX9 297 yX9_isNow, Cond.instanceMethod yX9_isNow, Cond.selects RX9 yX9_isNow yX9_isNow, Cond.code yX9_isNow cX9_isNow 5 (some .boolean), Cond.methodLink RX9 307 yX9_at, Cond.instanceMethod yX9_at]
def wsX9_count_r3 : List Cond := [Cond.selects RX9 yX9_at yX9_at, Cond.code yX9_at cX9_at 4 none, Cond.methodLink RX9 310 yX9_can, Cond.instanceMethod yX9_can, Cond.selects RX9 yX9_can yX9_can, Cond.code yX9_can cX9_can 6 (some .boolean), Cond.fieldLink RX9 16 "LitmusHallModel" "kind" "[I", Cond.methodLink RX9 267 yX9_rowAt, Cond.static yX9_rowAt, Cond.code yX9_rowAt cX9_rowAt 1 (some .int), Cond.methodLink RX9 313 yX9_does, Cond.instanceMethod yX9_does, Cond.selects RX9 yX9_does yX9_does, Cond.code yX9_does cX9_does 11 none, Cond.fieldLink RX9 22 "LitmusHallModel" "regOf" "[I", Cond.fieldLink RX9 19 "LitmusHallModel" "cellOf" "[I", Cond.fieldLink RX9 25 "LitmusHallModel" "valReg" "[I", Cond.fieldLink RX9 28 "LitmusHallModel" "valInt" "[I", Cond.fieldLink RX9 31 "LitmusHallModel" "val2Reg" "[I", Cond.fieldLink RX9 34 "LitmusHallModel" "val2Int" "[I", Cond.fieldLink RX9 37 "LitmusHallModel" "skip" "[I", Cond.methodLink RX9 270 yX9_goes, Cond.instanceMethod yX9_goes, Cond.selects RX9 yX9_goes yX9_goes]
def wsX9_count_r4 : List Cond := [Cond.code yX9_goes cX9_goes 4 none, Cond.methodLink RX9 273 yX9_taken, Cond.instanceMethod yX9_taken, Cond.selects RX9 yX9_taken yX9_taken, Cond.code yX9_taken cX9_taken 4 (some .int), Cond.methodLink RX9 277 yX9_loaded, Cond.instanceMethod yX9_loaded, Cond.selects RX9 yX9_loaded yX9_loaded, Cond.code yX9_loaded cX9_loaded 5 (some .int), Cond.methodLink RX9 281 yX9_put, Cond.instanceMethod yX9_put, Cond.selects RX9 yX9_put yX9_put, Cond.code yX9_put cX9_put 6 none, Cond.methodLink RX9 285 yX9_locked, Cond.instanceMethod yX9_locked, Cond.selects RX9 yX9_locked yX9_locked, Cond.code yX9_locked cX9_locked 7 none, Cond.methodLink RX9 317 yX9_isEnd, Cond.instanceMethod yX9_isEnd, Cond.selects RX9 yX9_isEnd yX9_isEnd, Cond.code yX9_isEnd cX9_isEnd 5 (some .boolean), Cond.methodLink RX9 321 yX9_sortEnds, Cond.instanceMethod yX9_sortEnds, Cond.selects RX9 yX9_sortEnds yX9_sortEnds]
def wsX9_count_r5 : List Cond := [Cond.code yX9_sortEnds cX9_sortEnds 5 none, Cond.methodLink RX9 331 yX9_sink, Cond.instanceMethod yX9_sink, Cond.selects RX9 yX9_sink yX9_sink, Cond.code yX9_sink cX9_sink 8 none, Cond.methodLink RX9 327 yX9_compare, Cond.instanceMethod yX9_compare, Cond.selects RX9 yX9_compare yX9_compare, Cond.code yX9_compare cX9_compare 8 (some .int), Cond.methodLink RX9 324 yX9_told, Cond.instanceMethod yX9_told, Cond.selects RX9 yX9_told yX9_told, Cond.code yX9_told cX9_told 4 (some .int), Cond.methodLink RX9 393 yX9_findSpots, Cond.instanceMethod yX9_findSpots, Cond.selects RX9 yX9_findSpots yX9_findSpots, Cond.code yX9_findSpots cX9_findSpots 3 none, Cond.fieldLink RX9 110 "LitmusHallModel" "spot" "[I"]
def wsX9_count : List Cond := .code yX9_count cX9_count 2 (some .int) :: ((wsX9_count_r1 ++ (wsX9_count_r2 ++ (wsX9_count_r3 ++ (wsX9_count_r4 ++ wsX9_count_r5)))) ++ wsX90)
def wsJ9_max_7cf53 : List Cond := .code yJ9_max_7cf53 cJ9_max_7cf53 2 (some .int) :: ([])
def wsJ9_min_7cf53 : List Cond := .code yJ9_min_7cf53 cJ9_min_7cf53 2 (some .int) :: ([])
def wsL_law_r1 : List Cond := [Cond.classLink RL 7 RX8, Cond.instantiable RX8 12, Cond.initialized RX8, Cond.classLink RL 10 RX9, Cond.instantiable RX9 52, Cond.initialized RX9, Cond.methodLink RL 9 yX8_init, Cond.instanceMethod yX8_init, Cond.code yX8_init cX8_init 1 none, Cond.methodLink RX8 3 objectInit, Cond.instanceMethod objectInit, Cond.code objectInit ⟨#[0xb1]⟩ 1 none, Cond.arrayClass .byte, Cond.fieldLink RX8 9 "LitmusHall" "tape" "[B", Cond.classLink RX8 13 RX6, Cond.instantiable RX6 12, Cond.initialized RX6, Cond.fieldLink RX8 16 "LitmusHall" "reader" "LLitmusHall$Reader;", Cond.fieldLink RX8 20 "LitmusHall" "faultPlace" "I", Cond.classLink RX8 24 RX4, Cond.instantiable RX4 4, Cond.initialized RX4, Cond.fieldLink RX8 27 "LitmusHall" "program" "LLitmusHall$Program;", Cond.classLink RX8 31 RX3]
def wsL_law_r2 : List Cond := [Cond.instantiable RX3 5, Cond.initialized RX3, Cond.fieldLink RX8 34 "LitmusHall" "machine" "LLitmusHall$Machine;", Cond.classLink RX8 38 RX2, Cond.instantiable RX2 5, Cond.initialized RX2, Cond.fieldLink RX8 41 "LitmusHall" "withRows" "LLitmusHall$Findings;", Cond.fieldLink RX8 45 "LitmusHall" "withoutRows" "LLitmusHall$Findings;", Cond.classLink RX8 48 RX5, Cond.instantiable RX5 7, Cond.initialized RX5, Cond.fieldLink RX8 51 "LitmusHall" "theRace" "LLitmusHall$Race;", Cond.classLink RX8 55 RX0, Cond.instantiable RX0 6, Cond.initialized RX0, Cond.fieldLink RX8 58 "LitmusHall" "theCure" "LLitmusHall$Cure;", Cond.instanceMethod yX6_init, Cond.code yX6_init cX6_init 1 none, Cond.methodLink RX6 3 objectInit, Cond.classLink RX6 9 RX4, Cond.fieldLink RX6 12 "LitmusHall$Reader" "draft" "LLitmusHall$Program;", Cond.fieldLink RX6 18 "LitmusHall$Reader" "place" "I", Cond.arrayClass .int, Cond.fieldLink RX6 22 "LitmusHall$Reader" "kinds" "[I"]
def wsL_law_r3 : List Cond := [Cond.fieldLink RX6 26 "LitmusHall$Reader" "starts" "[I", Cond.fieldLink RX6 29 "LitmusHall$Reader" "numbers" "[I", Cond.fieldLink RX6 32 "LitmusHall$Reader" "skipTokens" "[I", Cond.instanceMethod yX4_init, Cond.code yX4_init cX4_init 1 none, Cond.methodLink RX4 3 objectInit, Cond.fieldLink RX4 9 "LitmusHall$Program" "lengths" "[I", Cond.fieldLink RX4 15 "LitmusHall$Program" "cells" "[I", Cond.fieldLink RX4 18 "LitmusHall$Program" "parts" "[I", Cond.instanceMethod yX3_init, Cond.code yX3_init cX3_init 1 none, Cond.methodLink RX3 3 objectInit, Cond.classLink RX3 9 RX7, Cond.instantiable RX7 1, Cond.initialized RX7, Cond.fieldLink RX3 12 "LitmusHall$Machine" "state" "LLitmusHall$State;", Cond.fieldLink RX3 18 "LitmusHall$Machine" "done" "[I", Cond.instanceMethod yX7_init, Cond.code yX7_init cX7_init 1 none, Cond.methodLink RX7 5 objectInit, Cond.fieldLink RX7 11 "LitmusHall$State" "words" "[I", Cond.instanceMethod yX2_init, Cond.code yX2_init cX2_init 1 none, Cond.methodLink RX2 5 objectInit]
def wsL_law_r4 : List Cond := [Cond.fieldLink RX2 11 "LitmusHall$Findings" "records" "[I", Cond.instanceMethod yX5_init, Cond.code yX5_init cX5_init 1 none, Cond.methodLink RX5 3 objectInit, Cond.fieldLink RX5 9 "LitmusHall$Race" "path" "[I", Cond.instanceMethod yX0_init, Cond.code yX0_init cX0_init 1 none, Cond.methodLink RX0 3 objectInit, Cond.classLink RX0 9 RX4, Cond.fieldLink RX0 12 "LitmusHall$Cure" "fenced" "LLitmusHall$Program;", Cond.fieldLink RX0 18 "LitmusHall$Cure" "answer" "I", Cond.fieldLink RX0 22 "LitmusHall$Cure" "looked" "[I", Cond.fieldLink RX0 26 "LitmusHall$Cure" "told" "[I", Cond.methodLink RL 12 yX9_init, Cond.instanceMethod yX9_init, Cond.code yX9_init cX9_init 1 none, Cond.methodLink RX9 1 objectInit, Cond.fieldLink RX9 7 "LitmusHallModel" "cores" "[I", Cond.fieldLink RX9 13 "LitmusHallModel" "many" "[I", Cond.fieldLink RX9 16 "LitmusHallModel" "kind" "[I", Cond.fieldLink RX9 19 "LitmusHallModel" "cellOf" "[I", Cond.fieldLink RX9 22 "LitmusHallModel" "regOf" "[I", Cond.fieldLink RX9 25 "LitmusHallModel" "valReg" "[I", Cond.fieldLink RX9 28 "LitmusHallModel" "valInt" "[I"]
def wsL_law_r5 : List Cond := [Cond.fieldLink RX9 31 "LitmusHallModel" "val2Reg" "[I", Cond.fieldLink RX9 34 "LitmusHallModel" "val2Int" "[I", Cond.fieldLink RX9 37 "LitmusHallModel" "skip" "[I", Cond.fieldLink RX9 40 "LitmusHallModel" "cellInt" "[I", Cond.constant RX9 43 (522000), Cond.fieldLink RX9 44 "LitmusHallModel" "state" "[I", Cond.fieldLink RX9 47 "LitmusHallModel" "from" "[I", Cond.fieldLink RX9 50 "LitmusHallModel" "by" "[I", Cond.fieldLink RX9 53 "LitmusHallModel" "next" "[I", Cond.fieldLink RX9 56 "LitmusHallModel" "head" "[I", Cond.fieldLink RX9 59 "LitmusHallModel" "states" "[I", Cond.arrayClass .boolean, Cond.fieldLink RX9 62 "LitmusHallModel" "isFull" "[Z", Cond.fieldLink RX9 66 "LitmusHallModel" "isDone" "[Z", Cond.fieldLink RX9 69 "LitmusHallModel" "ends" "[I", Cond.fieldLink RX9 72 "LitmusHallModel" "endMany" "[I", Cond.fieldLink RX9 75 "LitmusHallModel" "now" "[I", Cond.fieldLink RX9 78 "LitmusHallModel" "machine" "[I", Cond.fieldLink RX9 81 "LitmusHallModel" "history" "[I", Cond.fieldLink RX9 84 "LitmusHallModel" "machineMode" "I", Cond.fieldLink RX9 88 "LitmusHallModel" "tape" "[B", Cond.fieldLink RX9 92 "LitmusHallModel" "faultPlace" "I", Cond.fieldLink RX9 95 "LitmusHallModel" "skipPlace" "[I", Cond.fieldLink RX9 98 "LitmusHallModel" "racing" "I"]
def wsL_law_r6 : List Cond := [Cond.fieldLink RX9 101 "LitmusHallModel" "raceStep" "[I", Cond.fieldLink RX9 104 "LitmusHallModel" "cureMany" "I", Cond.fieldLink RX9 107 "LitmusHallModel" "cure" "[I", Cond.fieldLink RX9 110 "LitmusHallModel" "spot" "[I", Cond.fieldLink RX9 113 "LitmusHallModel" "moved" "[I", Cond.methodLink RL 13 yX8_feed, Cond.instanceMethod yX8_feed, Cond.selects RX8 yX8_feed yX8_feed, Cond.code yX8_feed cX8_feed 6 (some .int), Cond.fieldLink RX8 62 "LitmusHall" "tapeSize" "I", Cond.methodLink RX8 65 yX8_feedWord, Cond.instanceMethod yX8_feedWord, Cond.selects RX8 yX8_feedWord yX8_feedWord, Cond.code yX8_feedWord cX8_feedWord 3 none, Cond.methodLink RL 17 yX9_feed, Cond.instanceMethod yX9_feed, Cond.selects RX9 yX9_feed yX9_feed, Cond.code yX9_feed cX9_feed 6 (some .int), Cond.fieldLink RX9 116 "LitmusHallModel" "taped" "I", Cond.methodLink RX9 119 yX9_byteRow, Cond.instanceMethod yX9_byteRow, Cond.selects RX9 yX9_byteRow yX9_byteRow, Cond.code yX9_byteRow cX9_byteRow 3 none, Cond.methodLink RL 18 yX8_back]
def wsL_law_r7 : List Cond := [Cond.instanceMethod yX8_back, Cond.selects RX8 yX8_back yX8_back, Cond.code yX8_back cX8_back 2 (some .int), Cond.methodLink RL 22 yX9_back, Cond.instanceMethod yX9_back, Cond.selects RX9 yX9_back yX9_back, Cond.code yX9_back cX9_back 2 (some .int), Cond.methodLink RL 23 yX8_read, Cond.instanceMethod yX8_read, Cond.selects RX8 yX8_read yX8_read, Cond.code yX8_read cX8_read 3 (some .int), Cond.fieldLink RX8 73 "LitmusHall$Reader" "place" "I", Cond.fieldLink RX8 76 "LitmusHall$Reader" "draft" "LLitmusHall$Program;", Cond.fieldLink RX8 79 "LitmusHall" "loaded" "Z", Cond.methodLink RX8 69 yX6_readText, Cond.instanceMethod yX6_readText, Cond.selects RX6 yX6_readText yX6_readText, Cond.code yX6_readText cX6_readText 3 (some .int), Cond.fieldLink RX6 39 "LitmusHall$Reader" "fault" "I", Cond.fieldLink RX6 42 "LitmusHall$Reader" "latePlace" "I", Cond.fieldLink RX6 45 "LitmusHall$Reader" "at" "I", Cond.fieldLink RX6 48 "LitmusHall$Reader" "told" "I", Cond.methodLink RX6 35 yX6_scan, Cond.instanceMethod yX6_scan]
def wsL_law_r8 : List Cond := [Cond.selects RX6 yX6_scan yX6_scan, Cond.code yX6_scan cX6_scan 6 none, Cond.methodLink RX6 61 yX6_behindBlanks, Cond.static yX6_behindBlanks, Cond.code yX6_behindBlanks cX6_behindBlanks 5 (some .int), Cond.methodLink RX6 65 yX6_behindRun, Cond.static yX6_behindRun, Cond.code yX6_behindRun cX6_behindRun 7 (some .int), Cond.methodLink RX6 74 yX6_isLetter, Cond.static yX6_isLetter, Cond.code yX6_isLetter cX6_isLetter 1 (some .boolean), Cond.methodLink RX6 78 yX6_isDigit, Cond.static yX6_isDigit, Cond.code yX6_isDigit cX6_isDigit 1 (some .boolean), Cond.methodLink RX6 68 yX6_kindOf, Cond.static yX6_kindOf, Cond.code yX6_kindOf cX6_kindOf 3 (some .int), Cond.methodLink RX6 81 yX6_wordKind, Cond.static yX6_wordKind, Cond.code yX6_wordKind cX6_wordKind 4 (some .int), Cond.methodLink RX6 84 yX6_isWord, Cond.static yX6_isWord, Cond.code yX6_isWord cX6_isWord 5 (some .boolean), Cond.methodLink RX6 90 yJ0_charAt_5068e]
def wsL_law_r9 : List Cond := [Cond.instanceMethod yJ0_charAt_5068e, Cond.selects RJ0 yJ0_charAt_5068e yJ0_charAt_5068e, Cond.initialized RJ0, Cond.code yJ0_charAt_5068e cJ0_charAt_5068e 2 (some .char), Cond.fieldLink RJ0 9 "java/lang/String" "value" "[B", Cond.methodLink RJ0 492 yJ0_isLatin1_aae02, Cond.instanceMethod yJ0_isLatin1_aae02, Cond.selects RJ0 yJ0_isLatin1_aae02 yJ0_isLatin1_aae02, Cond.code yJ0_isLatin1_aae02 cJ0_isLatin1_aae02 1 (some .boolean), Cond.fieldLink RJ0 38 "java/lang/String" "COMPACT_STRINGS" "Z", Cond.fieldLink RJ0 15 "java/lang/String" "coder" "B", Cond.methodLink RJ0 495 yJ1_charAt_3b067, Cond.static yJ1_charAt_3b067, Cond.initialized RJ1, Cond.code yJ1_charAt_3b067 cJ1_charAt_3b067 2 (some .char), Cond.methodLink RJ1 9 yJ0_checkIndex_df160, Cond.static yJ0_checkIndex_df160, Cond.code yJ0_checkIndex_df160 cJ0_checkIndex_df160 2 none, Cond.fieldLink RJ0 1053 "jdk/internal/util/Preconditions" "SIOOBE_FORMATTER" "Ljava/util/function/BiFunction;", Cond.methodLink RJ0 1059 yJ3_checkIndex_8e157, Cond.static yJ3_checkIndex_8e157, Cond.initialized RJ3, Cond.code yJ3_checkIndex_8e157 cJ3_checkIndex_8e157 3 (some .int), Cond.methodLink RJ0 498 yJ2_charAt_3b067]
def wsL_law_r10 : List Cond := [Cond.static yJ2_charAt_3b067, Cond.initialized RJ2, Cond.code yJ2_charAt_3b067 cJ2_charAt_3b067 2 (some .char), Cond.methodLink RJ2 67 yJ2_checkIndex_2214a, Cond.static yJ2_checkIndex_2214a, Cond.code yJ2_checkIndex_2214a cJ2_checkIndex_2214a 2 none, Cond.methodLink RJ2 48 yJ2_length_9d52b, Cond.static yJ2_length_9d52b, Cond.code yJ2_length_9d52b cJ2_length_9d52b 1 (some .int), Cond.methodLink RJ2 414 yJ0_checkIndex_df160, Cond.methodLink RJ2 71 yJ2_getChar_3b067, Cond.static yJ2_getChar_3b067, Cond.code yJ2_getChar_3b067 cJ2_getChar_3b067 2 (some .char), Cond.fieldLink RJ2 44 "java/lang/StringUTF16" "$assertionsDisabled" "Z", Cond.fieldLink RJ2 59 "java/lang/StringUTF16" "HI_BYTE_SHIFT" "I", Cond.fieldLink RJ2 63 "java/lang/StringUTF16" "LO_BYTE_SHIFT" "I", Cond.methodLink RX6 71 yX6_numberOf, Cond.static yX6_numberOf, Cond.code yX6_numberOf cX6_numberOf 5 (some .int), Cond.methodLink RX6 51 yX4_clear, Cond.instanceMethod yX4_clear, Cond.selects RX4 yX4_clear yX4_clear, Cond.code yX4_clear cX4_clear 1 none, Cond.fieldLink RX4 21 "LitmusHall$Program" "cores" "I"]
def wsL_law_r11 : List Cond := [Cond.methodLink RX4 25 yJ7_fill_53178, Cond.static yJ7_fill_53178, Cond.initialized RJ7, Cond.code yJ7_fill_53178 cJ7_fill_53178 4 none, Cond.methodLink RX6 54 yX6_readCells, Cond.instanceMethod yX6_readCells, Cond.selects RX6 yX6_readCells yX6_readCells, Cond.code yX6_readCells cX6_readCells 2 (some .boolean), Cond.methodLink RX6 99 yX6_readCellLine, Cond.instanceMethod yX6_readCellLine, Cond.selects RX6 yX6_readCellLine yX6_readCellLine, Cond.code yX6_readCellLine cX6_readCellLine 3 (some .boolean), Cond.fieldLink RX6 108 "LitmusHall$Reader" "value" "I", Cond.fieldLink RX6 119 "LitmusHall$Program" "cells" "[I", Cond.methodLink RX6 102 yX6_take, Cond.instanceMethod yX6_take, Cond.selects RX6 yX6_take yX6_take, Cond.code yX6_take cX6_take 2 (some .boolean), Cond.methodLink RX6 96 yX6_fail, Cond.instanceMethod yX6_fail, Cond.selects RX6 yX6_fail yX6_fail, Cond.code yX6_fail cX6_fail 2 (some .boolean), Cond.methodLink RX6 105 yX6_takeCell, Cond.instanceMethod yX6_takeCell]
def wsL_law_r12 : List Cond := [Cond.selects RX6 yX6_takeCell yX6_takeCell, Cond.code yX6_takeCell cX6_takeCell 1 (some .boolean), Cond.methodLink RX6 115 yX6_noteLate, Cond.instanceMethod yX6_noteLate, Cond.selects RX6 yX6_noteLate yX6_noteLate, Cond.code yX6_noteLate cX6_noteLate 2 none, Cond.methodLink RX6 111 yX6_takeVal, Cond.instanceMethod yX6_takeVal, Cond.selects RX6 yX6_takeVal yX6_takeVal, Cond.code yX6_takeVal cX6_takeVal 3 (some .boolean), Cond.fieldLink RX6 122 "LitmusHall$Reader" "valueReg" "I", Cond.methodLink RX6 58 yX6_readCores, Cond.instanceMethod yX6_readCores, Cond.selects RX6 yX6_readCores yX6_readCores, Cond.code yX6_readCores cX6_readCores 3 (some .boolean), Cond.fieldLink RX6 125 "LitmusHall$Program" "cores" "I", Cond.methodLink RX6 128 yX6_readIns, Cond.instanceMethod yX6_readIns, Cond.selects RX6 yX6_readIns yX6_readIns, Cond.code yX6_readIns cX6_readIns 7 (some .boolean), Cond.methodLink RX6 135 yX4_addBlank, Cond.instanceMethod yX4_addBlank, Cond.selects RX4 yX4_addBlank yX4_addBlank, Cond.code yX4_addBlank cX4_addBlank 4 (some .int)]
def wsL_law_r13 : List Cond := [Cond.methodLink RX4 31 yX4_partsAt, Cond.static yX4_partsAt, Cond.code yX4_partsAt cX4_partsAt 2 (some .int), Cond.methodLink RX6 139 yX6_shapeOf, Cond.static yX6_shapeOf, Cond.code yX6_shapeOf cX6_shapeOf 1 (some (.object "java/lang/String")), Cond.methodLink RX6 143 yJ0_length_8abf5, Cond.instanceMethod yJ0_length_8abf5, Cond.selects RJ0 yJ0_length_8abf5 yJ0_length_8abf5, Cond.code yJ0_length_8abf5 cJ0_length_8abf5 1 (some .int), Cond.methodLink RJ0 335 yJ0_coder_7d493, Cond.instanceMethod yJ0_coder_7d493, Cond.selects RJ0 yJ0_coder_7d493 yJ0_coder_7d493, Cond.code yJ0_coder_7d493 cJ0_coder_7d493 1 (some .byte), Cond.methodLink RX6 147 yX6_readPart, Cond.instanceMethod yX6_readPart, Cond.selects RX6 yX6_readPart yX6_readPart, Cond.code yX6_readPart cX6_readPart 5 (some .boolean), Cond.fieldLink RX6 168 "LitmusHall$Program" "parts" "[I", Cond.methodLink RX6 165 yX6_takeReg, Cond.instanceMethod yX6_takeReg, Cond.selects RX6 yX6_takeReg yX6_takeReg, Cond.code yX6_takeReg cX6_takeReg 2 (some .boolean), Cond.methodLink RX6 171 yX6_takeSkip]
def wsL_law_r14 : List Cond := [Cond.instanceMethod yX6_takeSkip, Cond.selects RX6 yX6_takeSkip yX6_takeSkip, Cond.code yX6_takeSkip cX6_takeSkip 1 (some .boolean), Cond.methodLink RX6 132 yX6_checkSkips, Cond.instanceMethod yX6_checkSkips, Cond.selects RX6 yX6_checkSkips yX6_checkSkips, Cond.code yX6_checkSkips cX6_checkSkips 3 none, Cond.fieldLink RX6 174 "LitmusHall$Program" "lengths" "[I", Cond.methodLink RX6 177 yX4_part, Cond.instanceMethod yX4_part, Cond.selects RX4 yX4_part yX4_part, Cond.code yX4_part cX4_part 4 (some .int), Cond.methodLink RX8 83 yX8_forgetFindings, Cond.instanceMethod yX8_forgetFindings, Cond.selects RX8 yX8_forgetFindings yX8_forgetFindings, Cond.code yX8_forgetFindings cX8_forgetFindings 1 none, Cond.fieldLink RX8 86 "LitmusHall$Machine" "stands" "Z", Cond.fieldLink RX8 89 "LitmusHall$Findings" "known" "Z", Cond.fieldLink RX8 92 "LitmusHall$Race" "known" "Z", Cond.methodLink RX8 93 yX0_forgetSearch, Cond.instanceMethod yX0_forgetSearch, Cond.selects RX0 yX0_forgetSearch yX0_forgetSearch, Cond.code yX0_forgetSearch cX0_forgetSearch 1 none, Cond.fieldLink RX0 29 "LitmusHall$Cure" "lookedSizes" "I"]
def wsL_law_r15 : List Cond := [Cond.methodLink RL 27 yX9_read, Cond.instanceMethod yX9_read, Cond.selects RX9 yX9_read yX9_read, Cond.code yX9_read cX9_read 3 (some .int), Cond.fieldLink RX9 147 "LitmusHallModel" "faultKind" "I", Cond.fieldLink RX9 150 "LitmusHallModel" "stopped" "Z", Cond.fieldLink RX9 127 "LitmusHallModel" "end" "I", Cond.fieldLink RX9 154 "LitmusHallModel" "tokens" "I", Cond.fieldLink RX9 224 "LitmusHallModel" "isProgram" "Z", Cond.fieldLink RX9 227 "LitmusHallModel" "done" "I", Cond.methodLink RX9 161 yX9_token, Cond.instanceMethod yX9_token, Cond.selects RX9 yX9_token yX9_token, Cond.code yX9_token cX9_token 5 none, Cond.fieldLink RX9 130 "LitmusHallModel" "begin" "I", Cond.fieldLink RX9 133 "LitmusHallModel" "word" "J", Cond.fieldLink RX9 137 "LitmusHallModel" "sort" "I", Cond.methodLink RX9 123 yX9_seen, Cond.instanceMethod yX9_seen, Cond.selects RX9 yX9_seen yX9_seen, Cond.code yX9_seen cX9_seen 2 (some .int), Cond.methodLink RX9 140 yX9_isLetter, Cond.instanceMethod yX9_isLetter, Cond.selects RX9 yX9_isLetter yX9_isLetter]
def wsL_law_r16 : List Cond := [Cond.code yX9_isLetter cX9_isLetter 2 (some .boolean), Cond.methodLink RX9 144 yX9_isDigit, Cond.instanceMethod yX9_isDigit, Cond.selects RX9 yX9_isDigit yX9_isDigit, Cond.code yX9_isDigit cX9_isDigit 2 (some .boolean), Cond.methodLink RX9 217 yX9_text, Cond.instanceMethod yX9_text, Cond.selects RX9 yX9_text yX9_text, Cond.code yX9_text cX9_text 3 (some .boolean), Cond.constantLong RX9 230 (1667591276), Cond.fieldLink RX9 186 "LitmusHallModel" "place" "I", Cond.fieldLink RX9 175 "LitmusHallModel" "number" "I", Cond.fieldLink RX9 172 "LitmusHallModel" "numberPlace" "I", Cond.constantLong RX9 238 (1668248165), Cond.methodLink RX9 168 yX9_isWord, Cond.instanceMethod yX9_isWord, Cond.selects RX9 yX9_isWord yX9_isWord, Cond.code yX9_isWord cX9_isWord 3 (some .boolean), Cond.methodLink RX9 164 yX9_pass, Cond.instanceMethod yX9_pass, Cond.selects RX9 yX9_pass yX9_pass, Cond.code yX9_pass cX9_pass 1 (some .boolean), Cond.methodLink RX9 157 yX9_stop, Cond.instanceMethod yX9_stop]
def wsL_law_r17 : List Cond := [Cond.selects RX9 yX9_stop yX9_stop, Cond.code yX9_stop cX9_stop 3 (some .boolean), Cond.methodLink RX9 232 yX9_cell, Cond.instanceMethod yX9_cell, Cond.selects RX9 yX9_cell yX9_cell, Cond.code yX9_cell cX9_cell 1 (some .boolean), Cond.methodLink RX9 180 yX9_whole, Cond.instanceMethod yX9_whole, Cond.selects RX9 yX9_whole yX9_whole, Cond.code yX9_whole cX9_whole 2 (some .boolean), Cond.methodLink RX9 183 yX9_tell, Cond.instanceMethod yX9_tell, Cond.selects RX9 yX9_tell yX9_tell, Cond.code yX9_tell cX9_tell 2 none, Cond.methodLink RX9 235 yX9_sign, Cond.instanceMethod yX9_sign, Cond.selects RX9 yX9_sign yX9_sign, Cond.code yX9_sign cX9_sign 2 (some .boolean), Cond.methodLink RX9 196 yX9_integer, Cond.instanceMethod yX9_integer, Cond.selects RX9 yX9_integer yX9_integer, Cond.code yX9_integer cX9_integer 2 (some .boolean), Cond.constantLong RX9 178 (45), Cond.methodLink RX9 240 yX9_core]
def wsL_law_r18 : List Cond := [Cond.instanceMethod yX9_core, Cond.selects RX9 yX9_core yX9_core, Cond.code yX9_core cX9_core 4 (some .boolean), Cond.constantLong RX9 250 (6647396), Cond.methodLink RX9 243 yX9_began, Cond.static yX9_began, Cond.code yX9_began cX9_began 2 (some .int), Cond.constantLong RX9 199 (1819238756), Cond.constantLong RX9 201 (495874699877), Cond.constantLong RX9 203 (7562612), Cond.constantLong RX9 205 (6382692), Cond.constantLong RX9 207 (439788397413), Cond.constantLong RX9 209 (1937203568), Cond.constantLong RX9 211 (6909539), Cond.constantLong RX9 213 (6513011), Cond.constantLong RX9 215 (26982), Cond.methodLink RX9 247 yX9_instruction, Cond.instanceMethod yX9_instruction, Cond.selects RX9 yX9_instruction yX9_instruction, Cond.code yX9_instruction cX9_instruction 3 (some .boolean), Cond.constantLong RX9 262 (1936419184), Cond.methodLink RX9 255 yX9_value, Cond.instanceMethod yX9_value, Cond.selects RX9 yX9_value yX9_value]
def wsL_law_r19 : List Cond := [Cond.code yX9_value cX9_value 3 (some .boolean), Cond.methodLink RX9 193 yX9_isRegister, Cond.instanceMethod yX9_isRegister, Cond.selects RX9 yX9_isRegister yX9_isRegister, Cond.code yX9_isRegister cX9_isRegister 1 (some .boolean), Cond.constantLong RX9 189 (97), Cond.constantLong RX9 191 (99), Cond.methodLink RX9 259 yX9_register, Cond.instanceMethod yX9_register, Cond.selects RX9 yX9_register yX9_register, Cond.code yX9_register cX9_register 1 (some .boolean), Cond.methodLink RX9 252 yX9_words, Cond.instanceMethod yX9_words, Cond.selects RX9 yX9_words yX9_words, Cond.code yX9_words cX9_words 3 (some .boolean), Cond.methodLink RX9 220 yX9_copyProgram, Cond.instanceMethod yX9_copyProgram, Cond.selects RX9 yX9_copyProgram yX9_copyProgram, Cond.code yX9_copyProgram cX9_copyProgram 5 none, Cond.methodLink RX9 264 yX9_copyIns, Cond.instanceMethod yX9_copyIns, Cond.selects RX9 yX9_copyIns yX9_copyIns, Cond.code yX9_copyIns cX9_copyIns 3 none, Cond.methodLink RL 28 yX8_place]
def wsL_law_r20 : List Cond := [Cond.instanceMethod yX8_place, Cond.selects RX8 yX8_place yX8_place, Cond.code yX8_place cX8_place 1 (some .int), Cond.methodLink RL 31 yX9_place, Cond.instanceMethod yX9_place, Cond.selects RX9 yX9_place yX9_place, Cond.code yX9_place cX9_place 1 (some .int), Cond.methodLink RL 32 yX8_ins, Cond.instanceMethod yX8_ins, Cond.selects RX8 yX8_ins yX8_ins, Cond.code yX8_ins cX8_ins 4 (some .int), Cond.fieldLink RX8 100 "LitmusHall$Program" "lengths" "[I", Cond.methodLink RX8 96 yX8_hasCore, Cond.instanceMethod yX8_hasCore, Cond.selects RX8 yX8_hasCore yX8_hasCore, Cond.code yX8_hasCore cX8_hasCore 2 (some .boolean), Cond.fieldLink RX8 108 "LitmusHall$Program" "cores" "I", Cond.methodLink RX8 104 yX4_part, Cond.methodLink RL 36 yX9_ins, Cond.instanceMethod yX9_ins, Cond.selects RX9 yX9_ins yX9_ins, Cond.code yX9_ins cX9_ins 5 (some .int), Cond.methodLink RL 37 yX8_begin, Cond.instanceMethod yX8_begin]
def wsL_law_r21 : List Cond := [Cond.selects RX8 yX8_begin yX8_begin, Cond.code yX8_begin cX8_begin 2 (some .boolean), Cond.methodLink RX8 111 yX8_isMode, Cond.static yX8_isMode, Cond.code yX8_isMode cX8_isMode 1 (some .boolean), Cond.methodLink RX8 114 yX3_start, Cond.instanceMethod yX3_start, Cond.selects RX3 yX3_start yX3_start, Cond.code yX3_start cX3_start 3 none, Cond.fieldLink RX3 22 "LitmusHall$Machine" "stands" "Z", Cond.fieldLink RX3 26 "LitmusHall$Machine" "mode" "I", Cond.fieldLink RX3 30 "LitmusHall$Machine" "steps" "I", Cond.methodLink RX3 33 yX7_start, Cond.instanceMethod yX7_start, Cond.selects RX7 yX7_start yX7_start, Cond.code yX7_start cX7_start 2 none, Cond.fieldLink RX7 27 "LitmusHall$Program" "cells" "[I", Cond.methodLink RX7 30 arraycopyName, Cond.native arraycopyName, Cond.static arraycopyName, Cond.initialized "java/lang/System", Cond.methodLink RX7 21 yJ7_fill_53178, Cond.methodLink RL 41 yX9_begin, Cond.instanceMethod yX9_begin]
def wsL_law_r22 : List Cond := [Cond.selects RX9 yX9_begin yX9_begin, Cond.code yX9_begin cX9_begin 2 (some .boolean), Cond.methodLink RX9 300 yX9_first, Cond.instanceMethod yX9_first, Cond.selects RX9 yX9_first yX9_first, Cond.code yX9_first cX9_first 2 none, Cond.methodLink RX9 338 yX9_keepMachine, Cond.instanceMethod yX9_keepMachine, Cond.selects RX9 yX9_keepMachine yX9_keepMachine, Cond.code yX9_keepMachine cX9_keepMachine 2 none, Cond.methodLink RL 42 yX8_step, Cond.instanceMethod yX8_step, Cond.selects RX8 yX8_step yX8_step, Cond.code yX8_step cX8_step 2 (some .boolean), Cond.methodLink RX8 118 yX3_go, Cond.instanceMethod yX3_go, Cond.selects RX3 yX3_go yX3_go, Cond.code yX3_go cX3_go 3 (some .boolean), Cond.methodLink RX3 37 yX7_can, Cond.instanceMethod yX7_can, Cond.selects RX7 yX7_can yX7_can, Cond.code yX7_can cX7_can 4 (some .boolean), Cond.fieldLink RX7 15 "LitmusHall$Program" "cores" "I", Cond.fieldLink RX7 36 "LitmusHall$Program" "lengths" "[I"]
def wsL_law_r23 : List Cond := [Cond.methodLink RX7 39 yX7_rowSize, Cond.instanceMethod yX7_rowSize, Cond.selects RX7 yX7_rowSize yX7_rowSize, Cond.code yX7_rowSize cX7_rowSize 2 (some .int), Cond.methodLink RX7 43 yX7_nextOf, Cond.instanceMethod yX7_nextOf, Cond.selects RX7 yX7_nextOf yX7_nextOf, Cond.code yX7_nextOf cX7_nextOf 2 (some .int), Cond.methodLink RX7 46 yX4_part, Cond.methodLink RX7 50 yX7_waits, Cond.static yX7_waits, Cond.code yX7_waits cX7_waits 1 (some .boolean), Cond.methodLink RX7 54 yX7_isLocked, Cond.static yX7_isLocked, Cond.code yX7_isLocked cX7_isLocked 1 (some .boolean), Cond.methodLink RX3 41 yX7_move, Cond.instanceMethod yX7_move, Cond.selects RX7 yX7_move yX7_move, Cond.code yX7_move cX7_move 8 none, Cond.fieldLink RX7 61 "LitmusHall$Program" "parts" "[I", Cond.methodLink RX7 57 yX7_letGo, Cond.instanceMethod yX7_letGo, Cond.selects RX7 yX7_letGo yX7_letGo, Cond.code yX7_letGo cX7_letGo 5 none]
def wsL_law_r24 : List Cond := [Cond.constant RX7 89 (-524161), Cond.methodLink RX7 86 yX7_rowCell, Cond.instanceMethod yX7_rowCell, Cond.selects RX7 yX7_rowCell yX7_rowCell, Cond.code yX7_rowCell cX7_rowCell 3 (some .int), Cond.methodLink RX7 64 yX4_partsAt, Cond.methodLink RX7 68 yX7_seen, Cond.instanceMethod yX7_seen, Cond.selects RX7 yX7_seen yX7_seen, Cond.code yX7_seen cX7_seen 4 (some .int), Cond.methodLink RX7 90 yX7_rowInt, Cond.instanceMethod yX7_rowInt, Cond.selects RX7 yX7_rowInt yX7_rowInt, Cond.code yX7_rowInt cX7_rowInt 3 (some .int), Cond.methodLink RX7 71 yX7_valueOf, Cond.instanceMethod yX7_valueOf, Cond.selects RX7 yX7_valueOf yX7_valueOf, Cond.code yX7_valueOf cX7_valueOf 5 (some .int), Cond.methodLink RX7 75 yX7_put, Cond.instanceMethod yX7_put, Cond.selects RX7 yX7_put yX7_put, Cond.code yX7_put cX7_put 6 none, Cond.methodLink RX7 79 yX7_forgetStored, Cond.instanceMethod yX7_forgetStored]
def wsL_law_r25 : List Cond := [Cond.selects RX7 yX7_forgetStored yX7_forgetStored, Cond.code yX7_forgetStored cX7_forgetStored 2 none, Cond.constant RX7 93 (-7864321), Cond.methodLink RX7 82 yX7_lock, Cond.instanceMethod yX7_lock, Cond.selects RX7 yX7_lock yX7_lock, Cond.code yX7_lock cX7_lock 11 none, Cond.methodLink RL 45 yX9_step, Cond.instanceMethod yX9_step, Cond.selects RX9 yX9_step yX9_step, Cond.code yX9_step cX9_step 3 (some .boolean), Cond.methodLink RX9 341 yX9_takeMachine, Cond.instanceMethod yX9_takeMachine, Cond.selects RX9 yX9_takeMachine yX9_takeMachine, Cond.code yX9_takeMachine cX9_takeMachine 2 none, Cond.methodLink RX9 310 yX9_can, Cond.instanceMethod yX9_can, Cond.selects RX9 yX9_can yX9_can, Cond.code yX9_can cX9_can 6 (some .boolean), Cond.methodLink RX9 267 yX9_rowAt, Cond.static yX9_rowAt, Cond.code yX9_rowAt cX9_rowAt 1 (some .int), Cond.methodLink RX9 313 yX9_does, Cond.instanceMethod yX9_does]
def wsL_law_r26 : List Cond := [Cond.selects RX9 yX9_does yX9_does, Cond.code yX9_does cX9_does 11 none, Cond.methodLink RX9 270 yX9_goes, Cond.instanceMethod yX9_goes, Cond.selects RX9 yX9_goes yX9_goes, Cond.code yX9_goes cX9_goes 4 none, Cond.methodLink RX9 273 yX9_taken, Cond.instanceMethod yX9_taken, Cond.selects RX9 yX9_taken yX9_taken, Cond.code yX9_taken cX9_taken 4 (some .int), Cond.methodLink RX9 277 yX9_loaded, Cond.instanceMethod yX9_loaded, Cond.selects RX9 yX9_loaded yX9_loaded, Cond.code yX9_loaded cX9_loaded 5 (some .int), Cond.methodLink RX9 281 yX9_put, Cond.instanceMethod yX9_put, Cond.selects RX9 yX9_put yX9_put, Cond.code yX9_put cX9_put 6 none, Cond.methodLink RX9 285 yX9_locked, Cond.instanceMethod yX9_locked, Cond.selects RX9 yX9_locked yX9_locked, Cond.code yX9_locked cX9_locked 7 none, Cond.methodLink RL 46 yX8_undo, Cond.instanceMethod yX8_undo]
def wsL_law_r27 : List Cond := [Cond.selects RX8 yX8_undo yX8_undo, Cond.code yX8_undo cX8_undo 1 (some .boolean), Cond.methodLink RX8 122 yX3_takeBack, Cond.instanceMethod yX3_takeBack, Cond.selects RX3 yX3_takeBack yX3_takeBack, Cond.code yX3_takeBack cX3_takeBack 3 (some .boolean), Cond.methodLink RL 50 yX9_undo, Cond.instanceMethod yX9_undo, Cond.selects RX9 yX9_undo yX9_undo, Cond.code yX9_undo cX9_undo 2 (some .boolean), Cond.methodLink RL 51 yX8_register, Cond.instanceMethod yX8_register, Cond.selects RX8 yX8_register yX8_register, Cond.code yX8_register cX8_register 3 (some .int), Cond.fieldLink RX8 126 "LitmusHall$Machine" "state" "LLitmusHall$State;", Cond.fieldLink RX8 130 "LitmusHall$State" "words" "[I", Cond.methodLink RL 55 yX9_register_, Cond.instanceMethod yX9_register_, Cond.selects RX9 yX9_register_ yX9_register_, Cond.code yX9_register_ cX9_register_ 3 (some .int), Cond.methodLink RX9 344 yX9_isCore, Cond.instanceMethod yX9_isCore, Cond.selects RX9 yX9_isCore yX9_isCore, Cond.code yX9_isCore cX9_isCore 2 (some .boolean)]
def wsL_law_r28 : List Cond := [Cond.methodLink RL 56 yX8_memory, Cond.instanceMethod yX8_memory, Cond.selects RX8 yX8_memory yX8_memory, Cond.code yX8_memory cX8_memory 2 (some .int), Cond.methodLink RL 59 yX9_memory, Cond.instanceMethod yX9_memory, Cond.selects RX9 yX9_memory yX9_memory, Cond.code yX9_memory cX9_memory 2 (some .int), Cond.methodLink RL 60 yX8_next, Cond.instanceMethod yX8_next, Cond.selects RX8 yX8_next yX8_next, Cond.code yX8_next cX8_next 2 (some .int), Cond.methodLink RX8 135 yX7_nextOf, Cond.methodLink RL 63 yX9_next, Cond.instanceMethod yX9_next, Cond.selects RX9 yX9_next yX9_next, Cond.code yX9_next cX9_next 2 (some .int), Cond.methodLink RL 64 yX8_store, Cond.instanceMethod yX8_store, Cond.selects RX8 yX8_store yX8_store, Cond.code yX8_store cX8_store 4 (some .int), Cond.methodLink RX8 139 yX7_rowSize, Cond.methodLink RX8 142 yX7_rowCell, Cond.methodLink RX8 146 yX7_rowInt]
def wsL_law_r29 : List Cond := [Cond.methodLink RL 67 yX9_store, Cond.instanceMethod yX9_store, Cond.selects RX9 yX9_store yX9_store, Cond.code yX9_store cX9_store 4 (some .int), Cond.methodLink RL 68 yX8_outcomes, Cond.instanceMethod yX8_outcomes, Cond.selects RX8 yX8_outcomes yX8_outcomes, Cond.code yX8_outcomes cX8_outcomes 3 (some .int), Cond.fieldLink RX8 153 "LitmusHall$Findings" "full" "Z", Cond.fieldLink RX8 156 "LitmusHall$Findings" "size" "I", Cond.methodLink RX8 149 yX8_found, Cond.instanceMethod yX8_found, Cond.selects RX8 yX8_found yX8_found, Cond.code yX8_found cX8_found 4 (some (.object "LitmusHall$Findings")), Cond.methodLink RX8 181 yX8_explorerAtHand, Cond.instanceMethod yX8_explorerAtHand, Cond.selects RX8 yX8_explorerAtHand yX8_explorerAtHand, Cond.code yX8_explorerAtHand cX8_explorerAtHand 1 (some (.object "LitmusHall$Explorer")), Cond.fieldLink RX8 227 "LitmusHall" "explorer" "LLitmusHall$Explorer;", Cond.classLink RX8 219 RX1, Cond.instantiable RX1 10, Cond.initialized RX1, Cond.instanceMethod yX1_init, Cond.code yX1_init cX1_init 1 none]
def wsL_law_r30 : List Cond := [Cond.methodLink RX1 7 objectInit, Cond.fieldLink RX1 13 "LitmusHall$Explorer" "ends" "[I", Cond.fieldLink RX1 17 "LitmusHall$Explorer" "path" "[I", Cond.classLink RX1 3 RX7, Cond.fieldLink RX1 21 "LitmusHall$Explorer" "state" "LLitmusHall$State;", Cond.fieldLink RX1 25 "LitmusHall$Explorer" "moved" "LLitmusHall$State;", Cond.fieldLink RX1 28 "LitmusHall$Explorer" "width" "I", Cond.fieldLink RX1 32 "LitmusHall$Explorer" "rows" "[I", Cond.fieldLink RX1 35 "LitmusHall$Explorer" "slots" "[I", Cond.fieldLink RX1 38 "LitmusHall$Explorer" "came" "[I", Cond.methodLink RX8 218 yX1_explore, Cond.instanceMethod yX1_explore, Cond.selects RX1 yX1_explore yX1_explore, Cond.code yX1_explore cX1_explore 5 (some .boolean), Cond.fieldLink RX1 47 "LitmusHall$Explorer" "size" "I", Cond.fieldLink RX1 50 "LitmusHall$Explorer" "endSize" "I", Cond.fieldLink RX1 61 "LitmusHall$State" "words" "[I", Cond.methodLink RX1 83 arraycopyName, Cond.methodLink RX1 41 yJ7_fill_53178, Cond.methodLink RX1 53 yX7_widthOf, Cond.static yX7_widthOf, Cond.code yX7_widthOf cX7_widthOf 2 (some .int), Cond.methodLink RX1 57 yX7_start, Cond.methodLink RX1 64 yX1_keep]
def wsL_law_r31 : List Cond := [Cond.instanceMethod yX1_keep, Cond.selects RX1 yX1_keep yX1_keep, Cond.code yX1_keep cX1_keep 7 (some .boolean), Cond.methodLink RX1 93 yX1_hashOf, Cond.instanceMethod yX1_hashOf, Cond.selects RX1 yX1_hashOf yX1_hashOf, Cond.code yX1_hashOf cX1_hashOf 4 (some .int), Cond.constant RX1 105 (-2048144789), Cond.methodLink RX1 97 yX1_add, Cond.instanceMethod yX1_add, Cond.selects RX1 yX1_add yX1_add, Cond.code yX1_add cX1_add 5 (some .boolean), Cond.constant RX1 106 (102000), Cond.methodLink RX1 107 Lib.Math.min.name, Cond.static Lib.Math.min.name, Cond.initialized "java/lang/Math", Cond.code Lib.Math.min.name Lib.Math.min.code 2 (some .int), Cond.methodLink RX1 113 yJ7_copyOf_59c91, Cond.static yJ7_copyOf_59c91, Cond.code yJ7_copyOf_59c91 cJ7_copyOf_59c91 3 (some (.array .int)), Cond.methodLink RJ7 316 ⟨"[I", "clone", "()Ljava/lang/Object;"⟩, Cond.sameMethod "[I" "java/lang/Object" "clone" "()Ljava/lang/Object;", Cond.native ⟨"java/lang/Object", "clone", "()Ljava/lang/Object;"⟩, Cond.instanceMethod ⟨"java/lang/Object", "clone", "()Ljava/lang/Object;"⟩]
def wsL_law_r32 : List Cond := [Cond.selects "[I" ⟨"[I", "clone", "()Ljava/lang/Object;"⟩ ⟨"java/lang/Object", "clone", "()Ljava/lang/Object;"⟩, Cond.classLink RJ7 317 "[I", Cond.methodLink RJ7 304 Lib.Math.min.name, Cond.methodLink RJ7 150 arraycopyName, Cond.methodLink RX1 101 yX1_isSame, Cond.instanceMethod yX1_isSame, Cond.selects RX1 yX1_isSame yX1_isSame, Cond.code yX1_isSame cX1_isSame 5 (some .boolean), Cond.methodLink RX1 68 yX1_fetch, Cond.instanceMethod yX1_fetch, Cond.selects RX1 yX1_fetch yX1_fetch, Cond.code yX1_fetch cX1_fetch 2 none, Cond.methodLink RX1 72 yX7_hasEnded, Cond.instanceMethod yX7_hasEnded, Cond.selects RX7 yX7_hasEnded yX7_hasEnded, Cond.code yX7_hasEnded cX7_hasEnded 3 (some .boolean), Cond.methodLink RX1 76 yX1_addEnd, Cond.instanceMethod yX1_addEnd, Cond.selects RX1 yX1_addEnd yX1_addEnd, Cond.code yX1_addEnd cX1_addEnd 6 none, Cond.methodLink RX1 117 yX1_isBefore, Cond.instanceMethod yX1_isBefore, Cond.selects RX1 yX1_isBefore yX1_isBefore, Cond.code yX1_isBefore cX1_isBefore 6 (some .boolean)]
def wsL_law_r33 : List Cond := [Cond.methodLink RX1 79 yX7_can, Cond.methodLink RX1 89 yX7_move, Cond.methodLink RX8 223 yX2_fill, Cond.instanceMethod yX2_fill, Cond.selects RX2 yX2_fill yX2_fill, Cond.code yX2_fill cX2_fill 4 none, Cond.fieldLink RX2 15 "LitmusHall$Findings" "known" "Z", Cond.fieldLink RX2 19 "LitmusHall$Findings" "full" "Z", Cond.fieldLink RX2 22 "LitmusHall$Explorer" "size" "I", Cond.fieldLink RX2 28 "LitmusHall$Findings" "states" "I", Cond.fieldLink RX2 31 "LitmusHall$Explorer" "endSize" "I", Cond.fieldLink RX2 34 "LitmusHall$Findings" "size" "I", Cond.methodLink RX2 35 Lib.Math.min.name, Cond.methodLink RX2 41 yX2_record, Cond.instanceMethod yX2_record, Cond.selects RX2 yX2_record yX2_record, Cond.code yX2_record cX2_record 8 none, Cond.fieldLink RX2 45 "LitmusHall$Explorer" "ends" "[I", Cond.fieldLink RX2 61 "LitmusHall$Explorer" "path" "[I", Cond.methodLink RX2 48 yX1_intOf, Cond.instanceMethod yX1_intOf, Cond.selects RX1 yX1_intOf yX1_intOf, Cond.code yX1_intOf cX1_intOf 3 (some .int), Cond.methodLink RX2 51 yJ7_fill_fda19]
def wsL_law_r34 : List Cond := [Cond.static yJ7_fill_fda19, Cond.code yJ7_fill_fda19 cJ7_fill_fda19 5 none, Cond.methodLink RJ7 13 yJ7_rangeCheck_23922, Cond.static yJ7_rangeCheck_23922, Cond.code yJ7_rangeCheck_23922 cJ7_rangeCheck_23922 3 none, Cond.methodLink RX2 57 yX1_pathTo, Cond.instanceMethod yX1_pathTo, Cond.selects RX1 yX1_pathTo yX1_pathTo, Cond.code yX1_pathTo cX1_pathTo 6 (some .int), Cond.methodLink RL 71 yX9_outcomes, Cond.instanceMethod yX9_outcomes, Cond.selects RX9 yX9_outcomes yX9_outcomes, Cond.code yX9_outcomes cX9_outcomes 2 (some .int), Cond.methodLink RX9 347 yX9_explored, Cond.instanceMethod yX9_explored, Cond.selects RX9 yX9_explored yX9_explored, Cond.code yX9_explored cX9_explored 2 (some .boolean), Cond.methodLink RX9 335 yX9_explore, Cond.instanceMethod yX9_explore, Cond.selects RX9 yX9_explore yX9_explore, Cond.code yX9_explore cX9_explore 8 none, Cond.methodLink RX9 303 yX9_comes, Cond.instanceMethod yX9_comes, Cond.selects RX9 yX9_comes yX9_comes]
def wsL_law_r35 : List Cond := [Cond.code yX9_comes cX9_comes 7 (some .boolean), Cond.methodLink RX9 293 yX9_sum, Cond.static yX9_sum, Cond.code yX9_sum cX9_sum 5 (some .int), Cond.constantLong RX9 289 (7), Cond.constantLong RX9 291 (1000003), Cond.methodLink RX9 297 yX9_isNow, Cond.instanceMethod yX9_isNow, Cond.selects RX9 yX9_isNow yX9_isNow, Cond.code yX9_isNow cX9_isNow 5 (some .boolean), Cond.methodLink RX9 307 yX9_at, Cond.instanceMethod yX9_at, Cond.selects RX9 yX9_at yX9_at, Cond.code yX9_at cX9_at 4 none, Cond.methodLink RX9 317 yX9_isEnd, Cond.instanceMethod yX9_isEnd, Cond.selects RX9 yX9_isEnd yX9_isEnd, Cond.code yX9_isEnd cX9_isEnd 5 (some .boolean), Cond.methodLink RX9 321 yX9_sortEnds, Cond.instanceMethod yX9_sortEnds, Cond.selects RX9 yX9_sortEnds yX9_sortEnds, Cond.code yX9_sortEnds cX9_sortEnds 5 none, Cond.methodLink RX9 331 yX9_sink, Cond.instanceMethod yX9_sink]
def wsL_law_r36 : List Cond := [Cond.selects RX9 yX9_sink yX9_sink, Cond.code yX9_sink cX9_sink 8 none, Cond.methodLink RX9 327 yX9_compare, Cond.instanceMethod yX9_compare, Cond.selects RX9 yX9_compare yX9_compare, Cond.code yX9_compare cX9_compare 8 (some .int), Cond.methodLink RX9 324 yX9_told, Cond.instanceMethod yX9_told, Cond.selects RX9 yX9_told yX9_told, Cond.code yX9_told cX9_told 4 (some .int), Cond.methodLink RL 72 yX8_outcome, Cond.instanceMethod yX8_outcome, Cond.selects RX8 yX8_outcome yX8_outcome, Cond.code yX8_outcome cX8_outcome 5 (some .int), Cond.methodLink RX8 159 yX2_has, Cond.instanceMethod yX2_has, Cond.selects RX2 yX2_has yX2_has, Cond.code yX2_has cX2_has 2 (some .boolean), Cond.methodLink RX8 162 yX2_intOf, Cond.instanceMethod yX2_intOf, Cond.selects RX2 yX2_intOf yX2_intOf, Cond.code yX2_intOf cX2_intOf 3 (some .int), Cond.methodLink RL 75 yX9_outcome, Cond.instanceMethod yX9_outcome]
def wsL_law_r37 : List Cond := [Cond.selects RX9 yX9_outcome yX9_outcome, Cond.code yX9_outcome cX9_outcome 4 (some .int), Cond.methodLink RX9 350 yX9_isOutcome, Cond.instanceMethod yX9_isOutcome, Cond.selects RX9 yX9_isOutcome yX9_isOutcome, Cond.code yX9_isOutcome cX9_isOutcome 3 (some .boolean), Cond.methodLink RL 76 yX8_schedule, Cond.instanceMethod yX8_schedule, Cond.selects RX8 yX8_schedule yX8_schedule, Cond.code yX8_schedule cX8_schedule 5 (some .int), Cond.methodLink RX8 165 yX2_stepOf, Cond.instanceMethod yX2_stepOf, Cond.selects RX2 yX2_stepOf yX2_stepOf, Cond.code yX2_stepOf cX2_stepOf 4 (some .int), Cond.methodLink RL 79 yX9_schedule, Cond.instanceMethod yX9_schedule, Cond.selects RX9 yX9_schedule yX9_schedule, Cond.code yX9_schedule cX9_schedule 4 (some .int), Cond.methodLink RX9 353 yX9_stepOf, Cond.instanceMethod yX9_stepOf, Cond.selects RX9 yX9_stepOf yX9_stepOf, Cond.code yX9_stepOf cX9_stepOf 7 (some .int), Cond.methodLink RL 80 yX8_more, Cond.instanceMethod yX8_more]
def wsL_law_r38 : List Cond := [Cond.selects RX8 yX8_more yX8_more, Cond.code yX8_more cX8_more 4 (some .int), Cond.methodLink RX8 168 yX2_numberOfOther, Cond.instanceMethod yX2_numberOfOther, Cond.selects RX2 yX2_numberOfOther yX2_numberOfOther, Cond.code yX2_numberOfOther cX2_numberOfOther 6 (some .int), Cond.methodLink RX2 64 yX2_compare, Cond.instanceMethod yX2_compare, Cond.selects RX2 yX2_compare yX2_compare, Cond.code yX2_compare cX2_compare 6 (some .int), Cond.methodLink RX2 68 yX2_intOf, Cond.methodLink RX2 69 yJ6_compare_7cf53, Cond.static yJ6_compare_7cf53, Cond.initialized RJ6, Cond.code yJ6_compare_7cf53 cJ6_compare_7cf53 2 (some .int), Cond.methodLink RL 83 yX9_more, Cond.instanceMethod yX9_more, Cond.selects RX9 yX9_more yX9_more, Cond.code yX9_more cX9_more 5 (some .int), Cond.methodLink RX9 356 yX9_isWithout, Cond.instanceMethod yX9_isWithout, Cond.selects RX9 yX9_isWithout yX9_isWithout, Cond.code yX9_isWithout cX9_isWithout 3 (some .boolean), Cond.methodLink RL 84 yX8_race]
def wsL_law_r39 : List Cond := [Cond.instanceMethod yX8_race, Cond.selects RX8 yX8_race yX8_race, Cond.code yX8_race cX8_race 1 (some .int), Cond.fieldLink RX8 175 "LitmusHall$Race" "answer" "I", Cond.methodLink RX8 172 yX8_findRace, Cond.instanceMethod yX8_findRace, Cond.selects RX8 yX8_findRace yX8_findRace, Cond.code yX8_findRace cX8_findRace 1 none, Cond.methodLink RX8 185 yX5_search, Cond.instanceMethod yX5_search, Cond.selects RX5 yX5_search yX5_search, Cond.code yX5_search cX5_search 4 none, Cond.fieldLink RX5 15 "LitmusHall$Race" "known" "Z", Cond.fieldLink RX5 19 "LitmusHall$Race" "answer" "I", Cond.fieldLink RX5 29 "LitmusHall$Explorer" "size" "I", Cond.fieldLink RX5 36 "LitmusHall$Explorer" "state" "LLitmusHall$State;", Cond.fieldLink RX5 48 "LitmusHall$Race" "steps" "I", Cond.fieldLink RX5 51 "LitmusHall$Explorer" "path" "[I", Cond.methodLink RX5 52 arraycopyName, Cond.methodLink RX5 23 yX1_explore, Cond.methodLink RX5 32 yX1_fetch, Cond.methodLink RX5 40 yX5_isRace, Cond.instanceMethod yX5_isRace, Cond.selects RX5 yX5_isRace yX5_isRace]
def wsL_law_r40 : List Cond := [Cond.code yX5_isRace cX5_isRace 6 (some .boolean), Cond.fieldLink RX5 58 "LitmusHall$Program" "cores" "I", Cond.fieldLink RX5 76 "LitmusHall$Race" "loader" "I", Cond.fieldLink RX5 79 "LitmusHall$Race" "writer" "I", Cond.fieldLink RX5 82 "LitmusHall$Race" "cell" "I", Cond.methodLink RX5 63 yX5_loadedCell, Cond.static yX5_loadedCell, Cond.code yX5_loadedCell cX5_loadedCell 5 (some .int), Cond.fieldLink RX5 88 "LitmusHall$Program" "lengths" "[I", Cond.methodLink RX5 85 yX7_nextOf, Cond.methodLink RX5 91 yX4_part, Cond.methodLink RX5 67 yX7_storedTo, Cond.instanceMethod yX7_storedTo, Cond.selects RX7 yX7_storedTo yX7_storedTo, Cond.code yX7_storedTo cX7_storedTo 2 (some .int), Cond.methodLink RX5 72 yX5_writes, Cond.static yX5_writes, Cond.code yX5_writes cX5_writes 6 (some .boolean), Cond.methodLink RX5 95 yX7_isLocked, Cond.methodLink RX5 44 yX1_pathTo, Cond.methodLink RL 87 yX9_race, Cond.instanceMethod yX9_race, Cond.selects RX9 yX9_race yX9_race, Cond.code yX9_race cX9_race 2 (some .int)]
def wsL_law_r41 : List Cond := [Cond.fieldLink RX9 374 "LitmusHallModel" "raceSteps" "I", Cond.methodLink RX9 371 yX9_isRace, Cond.instanceMethod yX9_isRace, Cond.selects RX9 yX9_isRace yX9_isRace, Cond.code yX9_isRace cX9_isRace 8 (some .boolean), Cond.fieldLink RX9 362 "LitmusHallModel" "raceR" "I", Cond.fieldLink RX9 365 "LitmusHallModel" "raceW" "I", Cond.fieldLink RX9 368 "LitmusHallModel" "raceX" "I", Cond.methodLink RX9 359 yX9_nextOf, Cond.instanceMethod yX9_nextOf, Cond.selects RX9 yX9_nextOf yX9_nextOf, Cond.code yX9_nextOf cX9_nextOf 4 (some .int), Cond.methodLink RL 88 yX8_racer, Cond.instanceMethod yX8_racer, Cond.selects RX8 yX8_racer yX8_racer, Cond.code yX8_racer cX8_racer 2 (some .int), Cond.methodLink RX8 178 yX5_tell, Cond.instanceMethod yX5_tell, Cond.selects RX5 yX5_tell yX5_tell, Cond.code yX5_tell cX5_tell 3 (some .int), Cond.methodLink RL 91 yX9_racer, Cond.instanceMethod yX9_racer, Cond.selects RX9 yX9_racer yX9_racer, Cond.code yX9_racer cX9_racer 2 (some .int)]
def wsL_law_r42 : List Cond := [Cond.methodLink RX9 377 yX9_race, Cond.methodLink RL 92 yX8_cure, Cond.instanceMethod yX8_cure, Cond.selects RX8 yX8_cure yX8_cure, Cond.code yX8_cure cX8_cure 3 (some .int), Cond.methodLink RX8 189 yX0_least, Cond.instanceMethod yX0_least, Cond.selects RX0 yX0_least yX0_least, Cond.code yX0_least cX0_least 6 (some .int), Cond.fieldLink RX0 32 "LitmusHall$Findings" "full" "Z", Cond.fieldLink RX0 42 "LitmusHall$Cure" "toldSize" "I", Cond.methodLink RX0 45 arraycopyName, Cond.methodLink RX0 38 yX0_lookAtSize, Cond.instanceMethod yX0_lookAtSize, Cond.selects RX0 yX0_lookAtSize yX0_lookAtSize, Cond.code yX0_lookAtSize cX0_lookAtSize 10 (some .int), Cond.methodLink RX0 51 yX4_placesInAll, Cond.instanceMethod yX4_placesInAll, Cond.selects RX4 yX4_placesInAll yX4_placesInAll, Cond.code yX4_placesInAll cX4_placesInAll 3 (some .int), Cond.methodLink RX4 35 Lib.Math.max.name, Cond.static Lib.Math.max.name, Cond.code Lib.Math.max.name Lib.Math.max.code 2 (some .int), Cond.methodLink RX0 55 yX4_placeOf]
def wsL_law_r43 : List Cond := [Cond.instanceMethod yX4_placeOf, Cond.selects RX4 yX4_placeOf yX4_placeOf, Cond.code yX4_placeOf cX4_placeOf 5 (some .int), Cond.methodLink RX0 59 yX4_becomeFenced, Cond.instanceMethod yX4_becomeFenced, Cond.selects RX4 yX4_becomeFenced yX4_becomeFenced, Cond.code yX4_becomeFenced cX4_becomeFenced 9 none, Cond.methodLink RX4 43 arraycopyName, Cond.methodLink RX4 40 yX4_clear, Cond.methodLink RX4 49 yX4_hasRoom, Cond.instanceMethod yX4_hasRoom, Cond.selects RX4 yX4_hasRoom yX4_hasRoom, Cond.code yX4_hasRoom cX4_hasRoom 2 (some .boolean), Cond.methodLink RX4 53 yX4_addBlank, Cond.methodLink RX4 56 yX4_part, Cond.methodLink RX4 60 yX4_within, Cond.static yX4_within, Cond.code yX4_within cX4_within 3 (some .int), Cond.methodLink RX4 63 yX4_copyIns, Cond.instanceMethod yX4_copyIns, Cond.selects RX4 yX4_copyIns yX4_copyIns, Cond.code yX4_copyIns cX4_copyIns 7 none, Cond.methodLink RX0 63 yX1_explore, Cond.methodLink RX0 69 yX2_isSame]
def wsL_law_r44 : List Cond := [Cond.instanceMethod yX2_isSame, Cond.selects RX2 yX2_isSame yX2_isSame, Cond.code yX2_isSame cX2_isSame 4 (some .boolean), Cond.methodLink RL 95 yX9_cure, Cond.instanceMethod yX9_cure, Cond.selects RX9 yX9_cure yX9_cure, Cond.code yX9_cure cX9_cure 8 (some .int), Cond.fieldLink RX9 381 "LitmusHallModel" "spots" "I", Cond.methodLink RX9 393 yX9_findSpots, Cond.instanceMethod yX9_findSpots, Cond.selects RX9 yX9_findSpots yX9_findSpots, Cond.code yX9_findSpots cX9_findSpots 3 none, Cond.methodLink RX9 396 yX9_cures, Cond.instanceMethod yX9_cures, Cond.selects RX9 yX9_cures yX9_cures, Cond.code yX9_cures cX9_cures 4 (some .int), Cond.methodLink RX9 390 yX9_fenced, Cond.instanceMethod yX9_fenced, Cond.selects RX9 yX9_fenced yX9_fenced, Cond.code yX9_fenced cX9_fenced 7 none, Cond.methodLink RX9 384 yX9_isPut, Cond.static yX9_isPut, Cond.code yX9_isPut cX9_isPut 3 (some .boolean), Cond.methodLink RX9 387 yX9_leadsTo]
def wsL_law_r45 : List Cond := [Cond.instanceMethod yX9_leadsTo, Cond.selects RX9 yX9_leadsTo yX9_leadsTo, Cond.code yX9_leadsTo cX9_leadsTo 8 none, Cond.methodLink RL 96 yX8_cured, Cond.instanceMethod yX8_cured, Cond.selects RX8 yX8_cured yX8_cured, Cond.code yX8_cured cX8_cured 2 (some .int), Cond.methodLink RX8 193 yX0_toldPlace, Cond.instanceMethod yX0_toldPlace, Cond.selects RX0 yX0_toldPlace yX0_toldPlace, Cond.code yX0_toldPlace cX0_toldPlace 2 (some .int), Cond.methodLink RL 99 yX9_cured, Cond.instanceMethod yX9_cured, Cond.selects RX9 yX9_cured yX9_cured, Cond.code yX9_cured cX9_cured 2 (some .int), Cond.methodLink RL 100 yX8_count, Cond.instanceMethod yX8_count, Cond.selects RX8 yX8_count yX8_count, Cond.code yX8_count cX8_count 2 (some .int), Cond.methodLink RX8 196 yX8_countOfProgram, Cond.instanceMethod yX8_countOfProgram, Cond.selects RX8 yX8_countOfProgram yX8_countOfProgram, Cond.code yX8_countOfProgram cX8_countOfProgram 2 (some .int), Cond.fieldLink RX8 209 "LitmusHall$Machine" "steps" "I"]
def wsL_law_r46 : List Cond := [Cond.methodLink RX8 199 yX4_insInAll, Cond.instanceMethod yX4_insInAll, Cond.selects RX4 yX4_insInAll yX4_insInAll, Cond.code yX4_insInAll cX4_insInAll 3 (some .int), Cond.methodLink RX8 203 yX2_statesOrNone, Cond.instanceMethod yX2_statesOrNone, Cond.selects RX2 yX2_statesOrNone yX2_statesOrNone, Cond.code yX2_statesOrNone cX2_statesOrNone 1 (some .int), Cond.methodLink RX8 206 yX2_sizeOrNone, Cond.instanceMethod yX2_sizeOrNone, Cond.selects RX2 yX2_sizeOrNone yX2_sizeOrNone, Cond.code yX2_sizeOrNone cX2_sizeOrNone 1 (some .int), Cond.methodLink RX8 212 yX7_hasEnded, Cond.methodLink RX8 215 yX4_placesInAll, Cond.methodLink RL 103 yX9_count, Cond.instanceMethod yX9_count, Cond.selects RX9 yX9_count yX9_count, Cond.code yX9_count cX9_count 2 (some .int)]
def wsL_law : List Cond := (wsL_law_r1 ++ (wsL_law_r2 ++ (wsL_law_r3 ++ (wsL_law_r4 ++ (wsL_law_r5 ++ (wsL_law_r6 ++ (wsL_law_r7 ++ (wsL_law_r8 ++ (wsL_law_r9 ++ (wsL_law_r10 ++ (wsL_law_r11 ++ (wsL_law_r12 ++ (wsL_law_r13 ++ (wsL_law_r14 ++ (wsL_law_r15 ++ (wsL_law_r16 ++ (wsL_law_r17 ++ (wsL_law_r18 ++ (wsL_law_r19 ++ (wsL_law_r20 ++ (wsL_law_r21 ++ (wsL_law_r22 ++ (wsL_law_r23 ++ (wsL_law_r24 ++ (wsL_law_r25 ++ (wsL_law_r26 ++ (wsL_law_r27 ++ (wsL_law_r28 ++ (wsL_law_r29 ++ (wsL_law_r30 ++ (wsL_law_r31 ++ (wsL_law_r32 ++ (wsL_law_r33 ++ (wsL_law_r34 ++ (wsL_law_r35 ++ (wsL_law_r36 ++ (wsL_law_r37 ++ (wsL_law_r38 ++ (wsL_law_r39 ++ (wsL_law_r40 ++ (wsL_law_r41 ++ (wsL_law_r42 ++ (wsL_law_r43 ++ (wsL_law_r44 ++ (wsL_law_r45 ++ wsL_law_r46))))))))))))))))))))))))))))))))))))))))))))) ++ wsX80 ++ wsX90 ++ wsX60 ++ wsX40 ++ wsX30 ++ wsX20 ++ wsX50 ++ wsX00 ++ wsX70 ++ wsX10 ++ ([] : List Cond)
theorem inlX0 : ∀ w ∈ wsX00, w ∈ wsL_law := fun _ h => List.mem_append_left _ (List.mem_append_left _ (List.mem_append_left _ (List.mem_append_right _ h)))
theorem inlX1 : ∀ w ∈ wsX10, w ∈ wsL_law := fun _ h => List.mem_append_left _ (List.mem_append_right _ h)
theorem inlX2 : ∀ w ∈ wsX20, w ∈ wsL_law := fun _ h => List.mem_append_left _ (List.mem_append_left _ (List.mem_append_left _ (List.mem_append_left _ (List.mem_append_left _ (List.mem_append_right _ h)))))
theorem inlX3 : ∀ w ∈ wsX30, w ∈ wsL_law := fun _ h => List.mem_append_left _ (List.mem_append_left _ (List.mem_append_left _ (List.mem_append_left _ (List.mem_append_left _ (List.mem_append_left _ (List.mem_append_right _ h))))))
theorem inlX4 : ∀ w ∈ wsX40, w ∈ wsL_law := fun _ h => List.mem_append_left _ (List.mem_append_left _ (List.mem_append_left _ (List.mem_append_left _ (List.mem_append_left _ (List.mem_append_left _ (List.mem_append_left _ (List.mem_append_right _ h)))))))
theorem inlX5 : ∀ w ∈ wsX50, w ∈ wsL_law := fun _ h => List.mem_append_left _ (List.mem_append_left _ (List.mem_append_left _ (List.mem_append_left _ (List.mem_append_right _ h))))
theorem inlX6 : ∀ w ∈ wsX60, w ∈ wsL_law := fun _ h => List.mem_append_left _ (List.mem_append_left _ (List.mem_append_left _ (List.mem_append_left _ (List.mem_append_left _ (List.mem_append_left _ (List.mem_append_left _ (List.mem_append_left _ (List.mem_append_right _ h))))))))
theorem inlX7 : ∀ w ∈ wsX70, w ∈ wsL_law := fun _ h => List.mem_append_left _ (List.mem_append_left _ (List.mem_append_right _ h))
theorem inlX8 : ∀ w ∈ wsX80, w ∈ wsL_law := fun _ h => List.mem_append_left _ (List.mem_append_left _ (List.mem_append_left _ (List.mem_append_left _ (List.mem_append_left _ (List.mem_append_left _ (List.mem_append_left _ (List.mem_append_left _ (List.mem_append_left _ (List.mem_append_left _ (List.mem_append_right _ h))))))))))
theorem inlX9 : ∀ w ∈ wsX90, w ∈ wsL_law := fun _ h => List.mem_append_left _ (List.mem_append_left _ (List.mem_append_left _ (List.mem_append_left _ (List.mem_append_left _ (List.mem_append_left _ (List.mem_append_left _ (List.mem_append_left _ (List.mem_append_left _ (List.mem_append_right _ h)))))))))
abbrev vwCl : List vw_C := [(RX0, TX0, 6), (RX1, TX1, 10), (RX2, TX2, 5), (RX3, TX3, 5), (RX4, TX4, 4), (RX5, TX5, 7), (RX6, TX6, 12), (RX7, TX7, 1), (RX8, TX8, 12), (RX9, TX9, 52)]
end
section

set_option maxRecDepth 20000 in
theorem ggX0_init_X4_init : GoodIn wsX0_init wsX4_init := goodIn_r _ [13, 14, 2, 3, 9, 15, 16, 17, 18, 19, 20, 21] (by decide +kernel) (by decide +kernel)
set_option maxRecDepth 20000 in
theorem gX0_init_X4_init_n11 : GoodIn wsX0_init (wsX4_init) := ggX0_init_X4_init
theorem dX0_init_0 : decode cX0_init 0 = .ok (.aload_n 0, 1) := by decide +kernel
theorem dX0_init_1 : decode cX0_init 1 = .ok (.invokespecial 3, 3) := by decide +kernel
theorem dX0_init_4 : decode cX0_init 4 = .ok (.aload_n 0, 1) := by decide +kernel
theorem dX0_init_5 : decode cX0_init 5 = .ok (.new 9, 3) := by decide +kernel
theorem dX0_init_8 : decode cX0_init 8 = .ok (.dup, 1) := by decide +kernel
theorem dX0_init_9 : decode cX0_init 9 = .ok (.invokespecial 11, 3) := by decide +kernel
theorem dX0_init_12 : decode cX0_init 12 = .ok (.putfield 12, 3) := by decide +kernel
theorem dX0_init_15 : decode cX0_init 15 = .ok (.aload_n 0, 1) := by decide +kernel
theorem dX0_init_16 : decode cX0_init 16 = .ok (.iconst (-1), 1) := by decide +kernel
theorem dX0_init_17 : decode cX0_init 17 = .ok (.putfield 18, 3) := by decide +kernel
theorem dX0_init_20 : decode cX0_init 20 = .ok (.aload_n 0, 1) := by decide +kernel
theorem dX0_init_21 : decode cX0_init 21 = .ok (.iconst 2, 1) := by decide +kernel
theorem dX0_init_22 : decode cX0_init 22 = .ok (.newarray .int, 2) := by decide +kernel
theorem dX0_init_24 : decode cX0_init 24 = .ok (.putfield 22, 3) := by decide +kernel
theorem dX0_init_27 : decode cX0_init 27 = .ok (.aload_n 0, 1) := by decide +kernel
theorem dX0_init_28 : decode cX0_init 28 = .ok (.iconst 2, 1) := by decide +kernel
theorem dX0_init_29 : decode cX0_init 29 = .ok (.newarray .int, 2) := by decide +kernel
theorem dX0_init_31 : decode cX0_init 31 = .ok (.putfield 26, 3) := by decide +kernel
theorem dX0_init_34 : decode cX0_init 34 = .ok (.return_, 1) := by decide +kernel
theorem dX0_toldPlace_0 : decode cX0_toldPlace 0 = .ok (.iload_n 1, 1) := by decide +kernel
theorem dX0_toldPlace_1 : decode cX0_toldPlace 1 = .ok (.ifCond .lt 25, 3) := by decide +kernel
theorem dX0_toldPlace_4 : decode cX0_toldPlace 4 = .ok (.iload_n 1, 1) := by decide +kernel
theorem dX0_toldPlace_5 : decode cX0_toldPlace 5 = .ok (.aload_n 0, 1) := by decide +kernel
theorem dX0_toldPlace_6 : decode cX0_toldPlace 6 = .ok (.getfield 42, 3) := by decide +kernel
theorem dX0_toldPlace_9 : decode cX0_toldPlace 9 = .ok (.if_icmp .ge 17, 3) := by decide +kernel
theorem dX0_toldPlace_12 : decode cX0_toldPlace 12 = .ok (.iload_n 1, 1) := by decide +kernel
theorem dX0_toldPlace_13 : decode cX0_toldPlace 13 = .ok (.iconst 2, 1) := by decide +kernel
theorem dX0_toldPlace_14 : decode cX0_toldPlace 14 = .ok (.if_icmp .ge 12, 3) := by decide +kernel
theorem dX0_toldPlace_17 : decode cX0_toldPlace 17 = .ok (.aload_n 0, 1) := by decide +kernel
theorem dX0_toldPlace_18 : decode cX0_toldPlace 18 = .ok (.getfield 26, 3) := by decide +kernel
theorem dX0_toldPlace_21 : decode cX0_toldPlace 21 = .ok (.iload_n 1, 1) := by decide +kernel
theorem dX0_toldPlace_22 : decode cX0_toldPlace 22 = .ok (.iaload, 1) := by decide +kernel
theorem dX0_toldPlace_23 : decode cX0_toldPlace 23 = .ok (.goto 4, 3) := by decide +kernel
theorem dX0_toldPlace_26 : decode cX0_toldPlace 26 = .ok (.iconst (-1), 1) := by decide +kernel
theorem dX0_toldPlace_27 : decode cX0_toldPlace 27 = .ok (.ireturn, 1) := by decide +kernel
theorem dX2_init_0 : decode cX2_init 0 = .ok (.aload_n 0, 1) := by decide +kernel
theorem dX2_init_1 : decode cX2_init 1 = .ok (.invokespecial 5, 3) := by decide +kernel
theorem dX2_init_4 : decode cX2_init 4 = .ok (.aload_n 0, 1) := by decide +kernel
theorem dX2_init_5 : decode cX2_init 5 = .ok (.bipush 17, 2) := by decide +kernel
theorem dX2_init_7 : decode cX2_init 7 = .ok (.newarray .int, 2) := by decide +kernel
theorem dX2_init_9 : decode cX2_init 9 = .ok (.putfield 11, 3) := by decide +kernel
theorem dX2_init_12 : decode cX2_init 12 = .ok (.return_, 1) := by decide +kernel
set_option maxRecDepth 20000 in
theorem ggX3_init_X7_init : GoodIn wsX3_init wsX7_init := goodIn_r _ [11, 12, 2, 3, 8, 13, 14] (by decide +kernel) (by decide +kernel)
set_option maxRecDepth 20000 in
theorem gX3_init_X7_init_n11 : GoodIn wsX3_init (wsX7_init) := ggX3_init_X7_init
theorem dX3_init_0 : decode cX3_init 0 = .ok (.aload_n 0, 1) := by decide +kernel
theorem dX3_init_1 : decode cX3_init 1 = .ok (.invokespecial 3, 3) := by decide +kernel
theorem dX3_init_4 : decode cX3_init 4 = .ok (.aload_n 0, 1) := by decide +kernel
theorem dX3_init_5 : decode cX3_init 5 = .ok (.new 9, 3) := by decide +kernel
theorem dX3_init_8 : decode cX3_init 8 = .ok (.dup, 1) := by decide +kernel
theorem dX3_init_9 : decode cX3_init 9 = .ok (.invokespecial 11, 3) := by decide +kernel
theorem dX3_init_12 : decode cX3_init 12 = .ok (.putfield 12, 3) := by decide +kernel
theorem dX3_init_15 : decode cX3_init 15 = .ok (.aload_n 0, 1) := by decide +kernel
theorem dX3_init_16 : decode cX3_init 16 = .ok (.bipush 38, 2) := by decide +kernel
theorem dX3_init_18 : decode cX3_init 18 = .ok (.newarray .int, 2) := by decide +kernel
theorem dX3_init_20 : decode cX3_init 20 = .ok (.putfield 18, 3) := by decide +kernel
theorem dX3_init_23 : decode cX3_init 23 = .ok (.return_, 1) := by decide +kernel
theorem dX4_init_0 : decode cX4_init 0 = .ok (.aload_n 0, 1) := by decide +kernel
theorem dX4_init_1 : decode cX4_init 1 = .ok (.invokespecial 3, 3) := by decide +kernel
theorem dX4_init_4 : decode cX4_init 4 = .ok (.aload_n 0, 1) := by decide +kernel
theorem dX4_init_5 : decode cX4_init 5 = .ok (.iconst 3, 1) := by decide +kernel
theorem dX4_init_6 : decode cX4_init 6 = .ok (.newarray .int, 2) := by decide +kernel
theorem dX4_init_8 : decode cX4_init 8 = .ok (.putfield 9, 3) := by decide +kernel
theorem dX4_init_11 : decode cX4_init 11 = .ok (.aload_n 0, 1) := by decide +kernel
theorem dX4_init_12 : decode cX4_init 12 = .ok (.iconst 4, 1) := by decide +kernel
theorem dX4_init_13 : decode cX4_init 13 = .ok (.newarray .int, 2) := by decide +kernel
theorem dX4_init_15 : decode cX4_init 15 = .ok (.putfield 15, 3) := by decide +kernel
theorem dX4_init_18 : decode cX4_init 18 = .ok (.aload_n 0, 1) := by decide +kernel
theorem dX4_init_19 : decode cX4_init 19 = .ok (.sipush 192, 3) := by decide +kernel
theorem dX4_init_22 : decode cX4_init 22 = .ok (.newarray .int, 2) := by decide +kernel
theorem dX4_init_24 : decode cX4_init 24 = .ok (.putfield 18, 3) := by decide +kernel
theorem dX4_init_27 : decode cX4_init 27 = .ok (.return_, 1) := by decide +kernel
set_option maxRecDepth 20000 in
theorem ggX4_clear_J7_fill_53178 : GoodIn wsX4_clear wsJ7_fill_53178 := goodIn_r _ [7] (by decide +kernel) (by decide +kernel)
set_option maxRecDepth 20000 in
theorem gX4_clear_J7_fill_53178 : GoodIn wsX4_clear (va_wsS RX4 25 yJ7_fill_53178 wsJ7_fill_53178) := goodIn_app (goodIn_of _ (by decide +kernel)) ggX4_clear_J7_fill_53178
theorem dX4_clear_0 : decode cX4_clear 0 = .ok (.aload_n 0, 1) := by decide +kernel
theorem dX4_clear_1 : decode cX4_clear 1 = .ok (.iconst 0, 1) := by decide +kernel
theorem dX4_clear_2 : decode cX4_clear 2 = .ok (.putfield 21, 3) := by decide +kernel
theorem dX4_clear_5 : decode cX4_clear 5 = .ok (.aload_n 0, 1) := by decide +kernel
theorem dX4_clear_6 : decode cX4_clear 6 = .ok (.getfield 9, 3) := by decide +kernel
theorem dX4_clear_9 : decode cX4_clear 9 = .ok (.iconst 0, 1) := by decide +kernel
theorem dX4_clear_10 : decode cX4_clear 10 = .ok (.invokestatic 25, 3) := by decide +kernel
theorem dX4_clear_13 : decode cX4_clear 13 = .ok (.aload_n 0, 1) := by decide +kernel
theorem dX4_clear_14 : decode cX4_clear 14 = .ok (.getfield 15, 3) := by decide +kernel
theorem dX4_clear_17 : decode cX4_clear 17 = .ok (.iconst 0, 1) := by decide +kernel
theorem dX4_clear_18 : decode cX4_clear 18 = .ok (.invokestatic 25, 3) := by decide +kernel
theorem dX4_clear_21 : decode cX4_clear 21 = .ok (.return_, 1) := by decide +kernel
theorem dX5_init_0 : decode cX5_init 0 = .ok (.aload_n 0, 1) := by decide +kernel
theorem dX5_init_1 : decode cX5_init 1 = .ok (.invokespecial 3, 3) := by decide +kernel
theorem dX5_init_4 : decode cX5_init 4 = .ok (.aload_n 0, 1) := by decide +kernel
theorem dX5_init_5 : decode cX5_init 5 = .ok (.bipush 38, 2) := by decide +kernel
theorem dX5_init_7 : decode cX5_init 7 = .ok (.newarray .int, 2) := by decide +kernel
theorem dX5_init_9 : decode cX5_init 9 = .ok (.putfield 9, 3) := by decide +kernel
theorem dX5_init_12 : decode cX5_init 12 = .ok (.return_, 1) := by decide +kernel
set_option maxRecDepth 20000 in
theorem ggX6_init_X4_init : GoodIn wsX6_init wsX4_init := goodIn_r _ [15, 16, 2, 3, 9, 17, 18, 19, 20, 21, 22, 23] (by decide +kernel) (by decide +kernel)
set_option maxRecDepth 20000 in
theorem gX6_init_X4_init_n11 : GoodIn wsX6_init (wsX4_init) := ggX6_init_X4_init
theorem dX6_init_0 : decode cX6_init 0 = .ok (.aload_n 0, 1) := by decide +kernel
theorem dX6_init_1 : decode cX6_init 1 = .ok (.invokespecial 3, 3) := by decide +kernel
theorem dX6_init_4 : decode cX6_init 4 = .ok (.aload_n 0, 1) := by decide +kernel
theorem dX6_init_5 : decode cX6_init 5 = .ok (.new 9, 3) := by decide +kernel
theorem dX6_init_8 : decode cX6_init 8 = .ok (.dup, 1) := by decide +kernel
theorem dX6_init_9 : decode cX6_init 9 = .ok (.invokespecial 11, 3) := by decide +kernel
theorem dX6_init_12 : decode cX6_init 12 = .ok (.putfield 12, 3) := by decide +kernel
theorem dX6_init_15 : decode cX6_init 15 = .ok (.aload_n 0, 1) := by decide +kernel
theorem dX6_init_16 : decode cX6_init 16 = .ok (.iconst (-1), 1) := by decide +kernel
theorem dX6_init_17 : decode cX6_init 17 = .ok (.putfield 18, 3) := by decide +kernel
theorem dX6_init_20 : decode cX6_init 20 = .ok (.aload_n 0, 1) := by decide +kernel
theorem dX6_init_21 : decode cX6_init 21 = .ok (.sipush 501, 3) := by decide +kernel
theorem dX6_init_24 : decode cX6_init 24 = .ok (.newarray .int, 2) := by decide +kernel
theorem dX6_init_26 : decode cX6_init 26 = .ok (.putfield 22, 3) := by decide +kernel
theorem dX6_init_29 : decode cX6_init 29 = .ok (.aload_n 0, 1) := by decide +kernel
theorem dX6_init_30 : decode cX6_init 30 = .ok (.sipush 501, 3) := by decide +kernel
theorem dX6_init_33 : decode cX6_init 33 = .ok (.newarray .int, 2) := by decide +kernel
theorem dX6_init_35 : decode cX6_init 35 = .ok (.putfield 26, 3) := by decide +kernel
theorem dX6_init_38 : decode cX6_init 38 = .ok (.aload_n 0, 1) := by decide +kernel
theorem dX6_init_39 : decode cX6_init 39 = .ok (.sipush 501, 3) := by decide +kernel
theorem dX6_init_42 : decode cX6_init 42 = .ok (.newarray .int, 2) := by decide +kernel
theorem dX6_init_44 : decode cX6_init 44 = .ok (.putfield 29, 3) := by decide +kernel
theorem dX6_init_47 : decode cX6_init 47 = .ok (.aload_n 0, 1) := by decide +kernel
theorem dX6_init_48 : decode cX6_init 48 = .ok (.bipush 6, 2) := by decide +kernel
theorem dX6_init_50 : decode cX6_init 50 = .ok (.newarray .int, 2) := by decide +kernel
theorem dX6_init_52 : decode cX6_init 52 = .ok (.putfield 32, 3) := by decide +kernel
theorem dX6_init_55 : decode cX6_init 55 = .ok (.return_, 1) := by decide +kernel
set_option maxRecDepth 20000 in
theorem ggX6_readText_X6_scan : GoodIn wsX6_readText wsX6_scan := goodIn_r _ [11, 12, 13, 14, 15, 16, 10, 17, 18, 19, 20, 21, 22, 23, 24, 25, 26, 27, 28, 29, 30, 31, 32, 33, 34, 35, 36, 37, 38, 39, 40, 41, 42, 43, 44, 45, 46, 47, 48, 49, 50, 51, 52, 53, 54, 55, 56, 57, 58, 59, 60, 61, 62, 63, 64, 65, 66, 67, 68, 69, 70, 71, 72, 73, 74, 75, 76, 77, 78, 79, 174, 175, 176, 177, 178, 179, 180, 181, 182, 183, 184, 185] (by decide +kernel) (by decide +kernel)
set_option maxRecDepth 20000 in
theorem gX6_readText_X6_scan : GoodIn wsX6_readText (wsV RX6 35 RX6 yX6_scan wsX6_scan) := goodIn_app (goodIn_of _ (by decide +kernel)) ggX6_readText_X6_scan
set_option maxRecDepth 20000 in
theorem ggX6_readText_X4_clear : GoodIn wsX6_readText wsX4_clear := goodIn_r _ [84, 85, 86, 87, 88, 89, 90, 91, 186, 187, 188, 189] (by decide +kernel) (by decide +kernel)
set_option maxRecDepth 20000 in
theorem gX6_readText_X4_clear : GoodIn wsX6_readText (wsV RX6 51 RX4 yX4_clear wsX4_clear) := goodIn_app (goodIn_of _ (by decide +kernel)) ggX6_readText_X4_clear
set_option maxRecDepth 20000 in
theorem ggX6_readText_X6_readCells : GoodIn wsX6_readText wsX6_readCells := goodIn_r _ [95, 13, 4, 96, 97, 98, 10, 99, 100, 5, 6, 101, 102, 103, 104, 105, 106, 107, 108, 109, 1, 12, 2, 110, 111, 112, 113, 14, 114, 115, 116, 117, 3, 118, 119, 120, 121, 122, 174, 175, 176, 177, 178, 179, 180, 181, 182, 183, 184, 185, 186, 187, 188, 189] (by decide +kernel) (by decide +kernel)
set_option maxRecDepth 20000 in
theorem gX6_readText_X6_readCells : GoodIn wsX6_readText (wsV RX6 54 RX6 yX6_readCells wsX6_readCells) := goodIn_app (goodIn_of _ (by decide +kernel)) ggX6_readText_X6_readCells
set_option maxRecDepth 20000 in
theorem ggX6_readText_X6_readCores : GoodIn wsX6_readText wsX6_readCores := goodIn_r _ [126, 13, 4, 6, 127, 102, 103, 104, 10, 105, 106, 107, 108, 109, 1, 12, 2, 128, 129, 130, 131, 132, 133, 134, 135, 83, 136, 86, 137, 138, 139, 140, 141, 142, 143, 144, 145, 146, 39, 147, 41, 148, 149, 150, 151, 46, 47, 36, 37, 38, 40, 42, 43, 44, 45, 48, 49, 50, 51, 52, 53, 54, 55, 56, 57, 58, 59, 60, 61, 62, 63, 64, 65, 66, 67, 68, 69, 70, 71, 72, 73, 74, 75, 76, 152, 153, 154, 155, 156, 122, 100, 157, 158, 159, 160, 110, 111, 112, 113, 14, 114, 115, 116, 117, 3, 161, 162, 163, 164, 118, 119, 120, 121, 165, 166, 167, 168, 169, 170, 171, 172, 173, 174, 175, 176, 177, 178, 179, 180, 181, 182, 183, 184, 185, 186, 187, 188, 189] (by decide +kernel) (by decide +kernel)
set_option maxRecDepth 20000 in
theorem gX6_readText_X6_readCores : GoodIn wsX6_readText (wsV RX6 58 RX6 yX6_readCores wsX6_readCores) := goodIn_app (goodIn_of _ (by decide +kernel)) ggX6_readText_X6_readCores
theorem dX6_readText_0 : decode cX6_readText 0 = .ok (.aload_n 0, 1) := by decide +kernel
theorem dX6_readText_1 : decode cX6_readText 1 = .ok (.aload_n 1, 1) := by decide +kernel
theorem dX6_readText_2 : decode cX6_readText 2 = .ok (.iload_n 2, 1) := by decide +kernel
theorem dX6_readText_3 : decode cX6_readText 3 = .ok (.invokevirtual 35, 3) := by decide +kernel
theorem dX6_readText_6 : decode cX6_readText 6 = .ok (.aload_n 0, 1) := by decide +kernel
theorem dX6_readText_7 : decode cX6_readText 7 = .ok (.iconst 0, 1) := by decide +kernel
theorem dX6_readText_8 : decode cX6_readText 8 = .ok (.putfield 39, 3) := by decide +kernel
theorem dX6_readText_11 : decode cX6_readText 11 = .ok (.aload_n 0, 1) := by decide +kernel
theorem dX6_readText_12 : decode cX6_readText 12 = .ok (.iconst (-1), 1) := by decide +kernel
theorem dX6_readText_13 : decode cX6_readText 13 = .ok (.putfield 18, 3) := by decide +kernel
theorem dX6_readText_16 : decode cX6_readText 16 = .ok (.aload_n 0, 1) := by decide +kernel
theorem dX6_readText_17 : decode cX6_readText 17 = .ok (.iconst (-1), 1) := by decide +kernel
theorem dX6_readText_18 : decode cX6_readText 18 = .ok (.putfield 42, 3) := by decide +kernel
theorem dX6_readText_21 : decode cX6_readText 21 = .ok (.aload_n 0, 1) := by decide +kernel
theorem dX6_readText_22 : decode cX6_readText 22 = .ok (.iconst 0, 1) := by decide +kernel
theorem dX6_readText_23 : decode cX6_readText 23 = .ok (.putfield 45, 3) := by decide +kernel
theorem dX6_readText_26 : decode cX6_readText 26 = .ok (.aload_n 0, 1) := by decide +kernel
theorem dX6_readText_27 : decode cX6_readText 27 = .ok (.iconst 0, 1) := by decide +kernel
theorem dX6_readText_28 : decode cX6_readText 28 = .ok (.putfield 48, 3) := by decide +kernel
theorem dX6_readText_31 : decode cX6_readText 31 = .ok (.aload_n 0, 1) := by decide +kernel
theorem dX6_readText_32 : decode cX6_readText 32 = .ok (.getfield 12, 3) := by decide +kernel
theorem dX6_readText_35 : decode cX6_readText 35 = .ok (.invokevirtual 51, 3) := by decide +kernel
theorem dX6_readText_38 : decode cX6_readText 38 = .ok (.aload_n 0, 1) := by decide +kernel
theorem dX6_readText_39 : decode cX6_readText 39 = .ok (.invokevirtual 54, 3) := by decide +kernel
theorem dX6_readText_42 : decode cX6_readText 42 = .ok (.ifCond .eq 31, 3) := by decide +kernel
theorem dX6_readText_45 : decode cX6_readText 45 = .ok (.aload_n 0, 1) := by decide +kernel
theorem dX6_readText_46 : decode cX6_readText 46 = .ok (.invokevirtual 58, 3) := by decide +kernel
theorem dX6_readText_49 : decode cX6_readText 49 = .ok (.ifCond .eq 24, 3) := by decide +kernel
theorem dX6_readText_52 : decode cX6_readText 52 = .ok (.aload_n 0, 1) := by decide +kernel
theorem dX6_readText_53 : decode cX6_readText 53 = .ok (.getfield 42, 3) := by decide +kernel
theorem dX6_readText_56 : decode cX6_readText 56 = .ok (.iconst (-1), 1) := by decide +kernel
theorem dX6_readText_57 : decode cX6_readText 57 = .ok (.if_icmp .eq 16, 3) := by decide +kernel
theorem dX6_readText_60 : decode cX6_readText 60 = .ok (.aload_n 0, 1) := by decide +kernel
theorem dX6_readText_61 : decode cX6_readText 61 = .ok (.iconst 3, 1) := by decide +kernel
theorem dX6_readText_62 : decode cX6_readText 62 = .ok (.putfield 39, 3) := by decide +kernel
theorem dX6_readText_65 : decode cX6_readText 65 = .ok (.aload_n 0, 1) := by decide +kernel
theorem dX6_readText_66 : decode cX6_readText 66 = .ok (.aload_n 0, 1) := by decide +kernel
theorem dX6_readText_67 : decode cX6_readText 67 = .ok (.getfield 42, 3) := by decide +kernel
theorem dX6_readText_70 : decode cX6_readText 70 = .ok (.putfield 18, 3) := by decide +kernel
theorem dX6_readText_73 : decode cX6_readText 73 = .ok (.aload_n 0, 1) := by decide +kernel
theorem dX6_readText_74 : decode cX6_readText 74 = .ok (.getfield 39, 3) := by decide +kernel
theorem dX6_readText_77 : decode cX6_readText 77 = .ok (.ireturn, 1) := by decide +kernel
set_option maxRecDepth 20000 in
theorem ggX6_scan_X6_behindBlanks : GoodIn wsX6_scan wsX6_behindBlanks := goodIn_r _ [7] (by decide +kernel) (by decide +kernel)
set_option maxRecDepth 20000 in
theorem gX6_scan_X6_behindBlanks : GoodIn wsX6_scan (va_wsS RX6 61 yX6_behindBlanks wsX6_behindBlanks) := goodIn_app (goodIn_of _ (by decide +kernel)) ggX6_scan_X6_behindBlanks
theorem dX6_scan_0 : decode cX6_scan 0 = .ok (.iconst 0, 1) := by decide +kernel
theorem dX6_scan_1 : decode cX6_scan 1 = .ok (.istore_n 3, 1) := by decide +kernel
theorem dX6_scan_2 : decode cX6_scan 2 = .ok (.iconst 0, 1) := by decide +kernel
theorem dX6_scan_3 : decode cX6_scan 3 = .ok (.istore 4, 2) := by decide +kernel
theorem dX6_scan_5 : decode cX6_scan 5 = .ok (.iload 4, 2) := by decide +kernel
theorem dX6_scan_7 : decode cX6_scan 7 = .ok (.sipush 500, 3) := by decide +kernel
theorem dX6_scan_10 : decode cX6_scan 10 = .ok (.if_icmp .gt 107, 3) := by decide +kernel
theorem dX6_scan_13 : decode cX6_scan 13 = .ok (.aload_n 1, 1) := by decide +kernel
theorem dX6_scan_14 : decode cX6_scan 14 = .ok (.iload_n 2, 1) := by decide +kernel
theorem dX6_scan_15 : decode cX6_scan 15 = .ok (.iload_n 3, 1) := by decide +kernel
theorem dX6_scan_16 : decode cX6_scan 16 = .ok (.invokestatic 61, 3) := by decide +kernel
theorem dX6_scan_19 : decode cX6_scan 19 = .ok (.istore_n 3, 1) := by decide +kernel
theorem dX6_scan_20 : decode cX6_scan 20 = .ok (.aload_n 0, 1) := by decide +kernel
theorem dX6_scan_21 : decode cX6_scan 21 = .ok (.getfield 26, 3) := by decide +kernel
theorem dX6_scan_24 : decode cX6_scan 24 = .ok (.iload 4, 2) := by decide +kernel
theorem dX6_scan_26 : decode cX6_scan 26 = .ok (.iload_n 3, 1) := by decide +kernel
theorem dX6_scan_27 : decode cX6_scan 27 = .ok (.iastore, 1) := by decide +kernel
theorem dX6_scan_28 : decode cX6_scan 28 = .ok (.iload_n 3, 1) := by decide +kernel
theorem dX6_scan_29 : decode cX6_scan 29 = .ok (.iload_n 2, 1) := by decide +kernel
theorem dX6_scan_30 : decode cX6_scan 30 = .ok (.if_icmp .lt 13, 3) := by decide +kernel
theorem dX6_scan_33 : decode cX6_scan 33 = .ok (.aload_n 0, 1) := by decide +kernel
theorem dX6_scan_34 : decode cX6_scan 34 = .ok (.getfield 22, 3) := by decide +kernel
theorem dX6_scan_37 : decode cX6_scan 37 = .ok (.iload 4, 2) := by decide +kernel
theorem dX6_scan_39 : decode cX6_scan 39 = .ok (.bipush 21, 2) := by decide +kernel
theorem dX6_scan_41 : decode cX6_scan 41 = .ok (.iastore, 1) := by decide +kernel
theorem dX6_scan_42 : decode cX6_scan 42 = .ok (.return_, 1) := by decide +kernel
theorem dX6_scan_43 : decode cX6_scan 43 = .ok (.aload_n 1, 1) := by decide +kernel
theorem dX6_scan_44 : decode cX6_scan 44 = .ok (.iload_n 2, 1) := by decide +kernel
theorem dX6_scan_45 : decode cX6_scan 45 = .ok (.iload_n 3, 1) := by decide +kernel
theorem dX6_scan_46 : decode cX6_scan 46 = .ok (.invokestatic 65, 3) := by decide +kernel
theorem dX6_scan_49 : decode cX6_scan 49 = .ok (.istore 5, 2) := by decide +kernel
theorem dX6_scan_51 : decode cX6_scan 51 = .ok (.aload_n 0, 1) := by decide +kernel
theorem dX6_scan_52 : decode cX6_scan 52 = .ok (.getfield 22, 3) := by decide +kernel
theorem dX6_scan_55 : decode cX6_scan 55 = .ok (.iload 4, 2) := by decide +kernel
theorem dX6_scan_57 : decode cX6_scan 57 = .ok (.aload_n 1, 1) := by decide +kernel
theorem dX6_scan_58 : decode cX6_scan 58 = .ok (.iload_n 3, 1) := by decide +kernel
theorem dX6_scan_59 : decode cX6_scan 59 = .ok (.iload 5, 2) := by decide +kernel
theorem dX6_scan_61 : decode cX6_scan 61 = .ok (.invokestatic 68, 3) := by decide +kernel
theorem dX6_scan_64 : decode cX6_scan 64 = .ok (.iastore, 1) := by decide +kernel
theorem dX6_scan_65 : decode cX6_scan 65 = .ok (.aload_n 0, 1) := by decide +kernel
theorem dX6_scan_66 : decode cX6_scan 66 = .ok (.getfield 22, 3) := by decide +kernel
theorem dX6_scan_69 : decode cX6_scan 69 = .ok (.iload 4, 2) := by decide +kernel
theorem dX6_scan_71 : decode cX6_scan 71 = .ok (.iaload, 1) := by decide +kernel
theorem dX6_scan_72 : decode cX6_scan 72 = .ok (.bipush 22, 2) := by decide +kernel
theorem dX6_scan_74 : decode cX6_scan 74 = .ok (.if_icmp .ne 4, 3) := by decide +kernel
theorem dX6_scan_77 : decode cX6_scan 77 = .ok (.return_, 1) := by decide +kernel
theorem dX6_scan_78 : decode cX6_scan 78 = .ok (.aload_n 0, 1) := by decide +kernel
theorem dX6_scan_79 : decode cX6_scan 79 = .ok (.getfield 29, 3) := by decide +kernel
theorem dX6_scan_82 : decode cX6_scan 82 = .ok (.iload 4, 2) := by decide +kernel
theorem dX6_scan_84 : decode cX6_scan 84 = .ok (.aload_n 0, 1) := by decide +kernel
theorem dX6_scan_85 : decode cX6_scan 85 = .ok (.getfield 22, 3) := by decide +kernel
theorem dX6_scan_88 : decode cX6_scan 88 = .ok (.iload 4, 2) := by decide +kernel
theorem dX6_scan_90 : decode cX6_scan 90 = .ok (.iaload, 1) := by decide +kernel
theorem dX6_scan_91 : decode cX6_scan 91 = .ok (.bipush 16, 2) := by decide +kernel
theorem dX6_scan_93 : decode cX6_scan 93 = .ok (.if_icmp .ne 13, 3) := by decide +kernel
theorem dX6_scan_96 : decode cX6_scan 96 = .ok (.aload_n 1, 1) := by decide +kernel
theorem dX6_scan_97 : decode cX6_scan 97 = .ok (.iload_n 3, 1) := by decide +kernel
theorem dX6_scan_98 : decode cX6_scan 98 = .ok (.iload 5, 2) := by decide +kernel
theorem dX6_scan_100 : decode cX6_scan 100 = .ok (.invokestatic 71, 3) := by decide +kernel
theorem dX6_scan_103 : decode cX6_scan 103 = .ok (.goto 4, 3) := by decide +kernel
theorem dX6_scan_106 : decode cX6_scan 106 = .ok (.iconst (-1), 1) := by decide +kernel
theorem dX6_scan_107 : decode cX6_scan 107 = .ok (.iastore, 1) := by decide +kernel
theorem dX6_scan_108 : decode cX6_scan 108 = .ok (.iload 5, 2) := by decide +kernel
theorem dX6_scan_110 : decode cX6_scan 110 = .ok (.istore_n 3, 1) := by decide +kernel
theorem dX6_scan_111 : decode cX6_scan 111 = .ok (.iinc 4 1, 3) := by decide +kernel
theorem dX6_scan_114 : decode cX6_scan 114 = .ok (.goto (-109), 3) := by decide +kernel
theorem dX6_scan_117 : decode cX6_scan 117 = .ok (.return_, 1) := by decide +kernel
theorem dX6_behindBlanks_0 : decode cX6_behindBlanks 0 = .ok (.iload_n 2, 1) := by decide +kernel
theorem dX6_behindBlanks_1 : decode cX6_behindBlanks 1 = .ok (.istore_n 3, 1) := by decide +kernel
theorem dX6_behindBlanks_2 : decode cX6_behindBlanks 2 = .ok (.iload_n 3, 1) := by decide +kernel
theorem dX6_behindBlanks_3 : decode cX6_behindBlanks 3 = .ok (.iload_n 1, 1) := by decide +kernel
theorem dX6_behindBlanks_4 : decode cX6_behindBlanks 4 = .ok (.if_icmp .ge 44, 3) := by decide +kernel
theorem dX6_behindBlanks_7 : decode cX6_behindBlanks 7 = .ok (.aload_n 0, 1) := by decide +kernel
theorem dX6_behindBlanks_8 : decode cX6_behindBlanks 8 = .ok (.iload_n 3, 1) := by decide +kernel
theorem dX6_behindBlanks_9 : decode cX6_behindBlanks 9 = .ok (.baload, 1) := by decide +kernel
theorem dX6_behindBlanks_10 : decode cX6_behindBlanks 10 = .ok (.istore 4, 2) := by decide +kernel
theorem dX6_behindBlanks_12 : decode cX6_behindBlanks 12 = .ok (.iload 4, 2) := by decide +kernel
theorem dX6_behindBlanks_14 : decode cX6_behindBlanks 14 = .ok (.bipush 9, 2) := by decide +kernel
theorem dX6_behindBlanks_16 : decode cX6_behindBlanks 16 = .ok (.if_icmp .eq 26, 3) := by decide +kernel
theorem dX6_behindBlanks_19 : decode cX6_behindBlanks 19 = .ok (.iload 4, 2) := by decide +kernel
theorem dX6_behindBlanks_21 : decode cX6_behindBlanks 21 = .ok (.bipush 10, 2) := by decide +kernel
theorem dX6_behindBlanks_23 : decode cX6_behindBlanks 23 = .ok (.if_icmp .eq 19, 3) := by decide +kernel
theorem dX6_behindBlanks_26 : decode cX6_behindBlanks 26 = .ok (.iload 4, 2) := by decide +kernel
theorem dX6_behindBlanks_28 : decode cX6_behindBlanks 28 = .ok (.bipush 13, 2) := by decide +kernel
theorem dX6_behindBlanks_30 : decode cX6_behindBlanks 30 = .ok (.if_icmp .eq 12, 3) := by decide +kernel
theorem dX6_behindBlanks_33 : decode cX6_behindBlanks 33 = .ok (.iload 4, 2) := by decide +kernel
theorem dX6_behindBlanks_35 : decode cX6_behindBlanks 35 = .ok (.bipush 32, 2) := by decide +kernel
theorem dX6_behindBlanks_37 : decode cX6_behindBlanks 37 = .ok (.if_icmp .eq 5, 3) := by decide +kernel
theorem dX6_behindBlanks_40 : decode cX6_behindBlanks 40 = .ok (.iload_n 3, 1) := by decide +kernel
theorem dX6_behindBlanks_41 : decode cX6_behindBlanks 41 = .ok (.ireturn, 1) := by decide +kernel
theorem dX6_behindBlanks_42 : decode cX6_behindBlanks 42 = .ok (.iinc 3 1, 3) := by decide +kernel
theorem dX6_behindBlanks_45 : decode cX6_behindBlanks 45 = .ok (.goto (-43), 3) := by decide +kernel
theorem dX6_behindBlanks_48 : decode cX6_behindBlanks 48 = .ok (.iload_n 1, 1) := by decide +kernel
theorem dX6_behindBlanks_49 : decode cX6_behindBlanks 49 = .ok (.ireturn, 1) := by decide +kernel
theorem dX6_fail_0 : decode cX6_fail 0 = .ok (.aload_n 0, 1) := by decide +kernel
theorem dX6_fail_1 : decode cX6_fail 1 = .ok (.iload_n 1, 1) := by decide +kernel
theorem dX6_fail_2 : decode cX6_fail 2 = .ok (.putfield 39, 3) := by decide +kernel
theorem dX6_fail_5 : decode cX6_fail 5 = .ok (.aload_n 0, 1) := by decide +kernel
theorem dX6_fail_6 : decode cX6_fail 6 = .ok (.aload_n 0, 1) := by decide +kernel
theorem dX6_fail_7 : decode cX6_fail 7 = .ok (.getfield 26, 3) := by decide +kernel
theorem dX6_fail_10 : decode cX6_fail 10 = .ok (.aload_n 0, 1) := by decide +kernel
theorem dX6_fail_11 : decode cX6_fail 11 = .ok (.getfield 45, 3) := by decide +kernel
theorem dX6_fail_14 : decode cX6_fail 14 = .ok (.iaload, 1) := by decide +kernel
theorem dX6_fail_15 : decode cX6_fail 15 = .ok (.putfield 18, 3) := by decide +kernel
theorem dX6_fail_18 : decode cX6_fail 18 = .ok (.iconst 0, 1) := by decide +kernel
theorem dX6_fail_19 : decode cX6_fail 19 = .ok (.ireturn, 1) := by decide +kernel
set_option maxRecDepth 20000 in
theorem ggX6_take_X6_fail : GoodIn wsX6_take wsX6_fail := goodIn_r _ [7, 8, 9, 2, 10, 11, 12, 13, 14, 15, 16, 17, 18, 19, 20, 21, 22] (by decide +kernel) (by decide +kernel)
set_option maxRecDepth 20000 in
theorem gX6_take_X6_fail : GoodIn wsX6_take (wsV RX6 96 RX6 yX6_fail wsX6_fail) := goodIn_app (goodIn_of _ (by decide +kernel)) ggX6_take_X6_fail
theorem dX6_take_0 : decode cX6_take 0 = .ok (.aload_n 0, 1) := by decide +kernel
theorem dX6_take_1 : decode cX6_take 1 = .ok (.getfield 22, 3) := by decide +kernel
theorem dX6_take_4 : decode cX6_take 4 = .ok (.aload_n 0, 1) := by decide +kernel
theorem dX6_take_5 : decode cX6_take 5 = .ok (.getfield 45, 3) := by decide +kernel
theorem dX6_take_8 : decode cX6_take 8 = .ok (.iaload, 1) := by decide +kernel
theorem dX6_take_9 : decode cX6_take 9 = .ok (.iload_n 1, 1) := by decide +kernel
theorem dX6_take_10 : decode cX6_take 10 = .ok (.if_icmp .eq 9, 3) := by decide +kernel
theorem dX6_take_13 : decode cX6_take 13 = .ok (.aload_n 0, 1) := by decide +kernel
theorem dX6_take_14 : decode cX6_take 14 = .ok (.iconst 1, 1) := by decide +kernel
theorem dX6_take_15 : decode cX6_take 15 = .ok (.invokevirtual 96, 3) := by decide +kernel
theorem dX6_take_18 : decode cX6_take 18 = .ok (.ireturn, 1) := by decide +kernel
theorem dX6_take_19 : decode cX6_take 19 = .ok (.aload_n 0, 1) := by decide +kernel
theorem dX6_take_20 : decode cX6_take 20 = .ok (.getfield 45, 3) := by decide +kernel
theorem dX6_take_23 : decode cX6_take 23 = .ok (.sipush 500, 3) := by decide +kernel
theorem dX6_take_26 : decode cX6_take 26 = .ok (.if_icmp .lt 9, 3) := by decide +kernel
theorem dX6_take_29 : decode cX6_take 29 = .ok (.aload_n 0, 1) := by decide +kernel
theorem dX6_take_30 : decode cX6_take 30 = .ok (.iconst 2, 1) := by decide +kernel
theorem dX6_take_31 : decode cX6_take 31 = .ok (.invokevirtual 96, 3) := by decide +kernel
theorem dX6_take_34 : decode cX6_take 34 = .ok (.ireturn, 1) := by decide +kernel
theorem dX6_take_35 : decode cX6_take 35 = .ok (.aload_n 0, 1) := by decide +kernel
theorem dX6_take_36 : decode cX6_take 36 = .ok (.dup, 1) := by decide +kernel
theorem dX6_take_37 : decode cX6_take 37 = .ok (.getfield 45, 3) := by decide +kernel
theorem dX6_take_40 : decode cX6_take 40 = .ok (.iconst 1, 1) := by decide +kernel
theorem dX6_take_41 : decode cX6_take 41 = .ok (.iadd, 1) := by decide +kernel
theorem dX6_take_42 : decode cX6_take 42 = .ok (.putfield 45, 3) := by decide +kernel
theorem dX6_take_45 : decode cX6_take 45 = .ok (.iconst 1, 1) := by decide +kernel
theorem dX6_take_46 : decode cX6_take 46 = .ok (.ireturn, 1) := by decide +kernel
theorem dX6_readCells_0 : decode cX6_readCells 0 = .ok (.iconst 0, 1) := by decide +kernel
theorem dX6_readCells_1 : decode cX6_readCells 1 = .ok (.istore_n 1, 1) := by decide +kernel
theorem dX6_readCells_2 : decode cX6_readCells 2 = .ok (.iload_n 1, 1) := by decide +kernel
theorem dX6_readCells_3 : decode cX6_readCells 3 = .ok (.sipush 500, 3) := by decide +kernel
theorem dX6_readCells_6 : decode cX6_readCells 6 = .ok (.if_icmp .gt 32, 3) := by decide +kernel
theorem dX6_readCells_9 : decode cX6_readCells 9 = .ok (.aload_n 0, 1) := by decide +kernel
theorem dX6_readCells_10 : decode cX6_readCells 10 = .ok (.getfield 22, 3) := by decide +kernel
theorem dX6_readCells_13 : decode cX6_readCells 13 = .ok (.aload_n 0, 1) := by decide +kernel
theorem dX6_readCells_14 : decode cX6_readCells 14 = .ok (.getfield 45, 3) := by decide +kernel
theorem dX6_readCells_17 : decode cX6_readCells 17 = .ok (.iaload, 1) := by decide +kernel
theorem dX6_readCells_18 : decode cX6_readCells 18 = .ok (.bipush 9, 2) := by decide +kernel
theorem dX6_readCells_20 : decode cX6_readCells 20 = .ok (.if_icmp .ne 18, 3) := by decide +kernel
theorem dX6_readCells_23 : decode cX6_readCells 23 = .ok (.aload_n 0, 1) := by decide +kernel
theorem dX6_readCells_24 : decode cX6_readCells 24 = .ok (.invokevirtual 99, 3) := by decide +kernel
theorem dX6_readCells_27 : decode cX6_readCells 27 = .ok (.ifCond .ne 5, 3) := by decide +kernel
theorem dX6_readCells_30 : decode cX6_readCells 30 = .ok (.iconst 0, 1) := by decide +kernel
theorem dX6_readCells_31 : decode cX6_readCells 31 = .ok (.ireturn, 1) := by decide +kernel
theorem dX6_readCells_32 : decode cX6_readCells 32 = .ok (.iinc 1 1, 3) := by decide +kernel
theorem dX6_readCells_35 : decode cX6_readCells 35 = .ok (.goto (-33), 3) := by decide +kernel
theorem dX6_readCells_38 : decode cX6_readCells 38 = .ok (.iconst 1, 1) := by decide +kernel
theorem dX6_readCells_39 : decode cX6_readCells 39 = .ok (.ireturn, 1) := by decide +kernel
set_option maxRecDepth 20000 in
theorem ggX6_readCores_X6_take : GoodIn wsX6_readCores wsX6_take := goodIn_r _ [9, 1, 2, 10, 11, 12, 8, 13, 14, 15, 16, 122, 123, 124, 125, 126, 127, 128, 129, 130, 131, 132, 133] (by decide +kernel) (by decide +kernel)
set_option maxRecDepth 20000 in
theorem gX6_readCores_X6_take : GoodIn wsX6_readCores (wsV RX6 102 RX6 yX6_take wsX6_take) := goodIn_app (goodIn_of _ (by decide +kernel)) ggX6_readCores_X6_take
set_option maxRecDepth 20000 in
theorem ggX6_readCores_X6_fail : GoodIn wsX6_readCores wsX6_fail := goodIn_r _ [13, 14, 15, 2, 16, 122, 123, 124, 125, 126, 127, 128, 129, 130, 131, 132, 133] (by decide +kernel) (by decide +kernel)
set_option maxRecDepth 20000 in
theorem gX6_readCores_X6_fail : GoodIn wsX6_readCores (wsV RX6 96 RX6 yX6_fail wsX6_fail) := goodIn_app (goodIn_of _ (by decide +kernel)) ggX6_readCores_X6_fail
theorem dX6_readCores_0 : decode cX6_readCores 0 = .ok (.iconst 0, 1) := by decide +kernel
theorem dX6_readCores_1 : decode cX6_readCores 1 = .ok (.istore_n 1, 1) := by decide +kernel
theorem dX6_readCores_2 : decode cX6_readCores 2 = .ok (.iload_n 1, 1) := by decide +kernel
theorem dX6_readCores_3 : decode cX6_readCores 3 = .ok (.iconst 3, 1) := by decide +kernel
theorem dX6_readCores_4 : decode cX6_readCores 4 = .ok (.if_icmp .ge 132, 3) := by decide +kernel
theorem dX6_readCores_7 : decode cX6_readCores 7 = .ok (.iload_n 1, 1) := by decide +kernel
theorem dX6_readCores_8 : decode cX6_readCores 8 = .ok (.ifCond .eq 17, 3) := by decide +kernel
theorem dX6_readCores_11 : decode cX6_readCores 11 = .ok (.aload_n 0, 1) := by decide +kernel
theorem dX6_readCores_12 : decode cX6_readCores 12 = .ok (.getfield 22, 3) := by decide +kernel
theorem dX6_readCores_15 : decode cX6_readCores 15 = .ok (.aload_n 0, 1) := by decide +kernel
theorem dX6_readCores_16 : decode cX6_readCores 16 = .ok (.getfield 45, 3) := by decide +kernel
theorem dX6_readCores_19 : decode cX6_readCores 19 = .ok (.iaload, 1) := by decide +kernel
theorem dX6_readCores_20 : decode cX6_readCores 20 = .ok (.bipush 21, 2) := by decide +kernel
theorem dX6_readCores_22 : decode cX6_readCores 22 = .ok (.if_icmp .eq 114, 3) := by decide +kernel
theorem dX6_readCores_25 : decode cX6_readCores 25 = .ok (.aload_n 0, 1) := by decide +kernel
theorem dX6_readCores_26 : decode cX6_readCores 26 = .ok (.getfield 12, 3) := by decide +kernel
theorem dX6_readCores_29 : decode cX6_readCores 29 = .ok (.iload_n 1, 1) := by decide +kernel
theorem dX6_readCores_30 : decode cX6_readCores 30 = .ok (.iconst 1, 1) := by decide +kernel
theorem dX6_readCores_31 : decode cX6_readCores 31 = .ok (.iadd, 1) := by decide +kernel
theorem dX6_readCores_32 : decode cX6_readCores 32 = .ok (.putfield 125, 3) := by decide +kernel
theorem dX6_readCores_35 : decode cX6_readCores 35 = .ok (.aload_n 0, 1) := by decide +kernel
theorem dX6_readCores_36 : decode cX6_readCores 36 = .ok (.bipush 10, 2) := by decide +kernel
theorem dX6_readCores_38 : decode cX6_readCores 38 = .ok (.invokevirtual 102, 3) := by decide +kernel
theorem dX6_readCores_41 : decode cX6_readCores 41 = .ok (.ifCond .eq 12, 3) := by decide +kernel
theorem dX6_readCores_44 : decode cX6_readCores 44 = .ok (.aload_n 0, 1) := by decide +kernel
theorem dX6_readCores_45 : decode cX6_readCores 45 = .ok (.bipush 17, 2) := by decide +kernel
theorem dX6_readCores_47 : decode cX6_readCores 47 = .ok (.invokevirtual 102, 3) := by decide +kernel
theorem dX6_readCores_50 : decode cX6_readCores 50 = .ok (.ifCond .ne 5, 3) := by decide +kernel
theorem dX6_readCores_53 : decode cX6_readCores 53 = .ok (.iconst 0, 1) := by decide +kernel
theorem dX6_readCores_54 : decode cX6_readCores 54 = .ok (.ireturn, 1) := by decide +kernel
theorem dX6_readCores_55 : decode cX6_readCores 55 = .ok (.iconst 0, 1) := by decide +kernel
theorem dX6_readCores_56 : decode cX6_readCores 56 = .ok (.istore_n 2, 1) := by decide +kernel
theorem dX6_readCores_57 : decode cX6_readCores 57 = .ok (.iload_n 2, 1) := by decide +kernel
theorem dX6_readCores_58 : decode cX6_readCores 58 = .ok (.bipush 6, 2) := by decide +kernel
theorem dX6_readCores_60 : decode cX6_readCores 60 = .ok (.if_icmp .ge 34, 3) := by decide +kernel
theorem dX6_readCores_63 : decode cX6_readCores 63 = .ok (.aload_n 0, 1) := by decide +kernel
theorem dX6_readCores_64 : decode cX6_readCores 64 = .ok (.getfield 22, 3) := by decide +kernel
theorem dX6_readCores_67 : decode cX6_readCores 67 = .ok (.aload_n 0, 1) := by decide +kernel
theorem dX6_readCores_68 : decode cX6_readCores 68 = .ok (.getfield 45, 3) := by decide +kernel
theorem dX6_readCores_71 : decode cX6_readCores 71 = .ok (.iaload, 1) := by decide +kernel
theorem dX6_readCores_72 : decode cX6_readCores 72 = .ok (.bipush 8, 2) := by decide +kernel
theorem dX6_readCores_74 : decode cX6_readCores 74 = .ok (.if_icmp .gt 20, 3) := by decide +kernel
theorem dX6_readCores_77 : decode cX6_readCores 77 = .ok (.aload_n 0, 1) := by decide +kernel
theorem dX6_readCores_78 : decode cX6_readCores 78 = .ok (.iload_n 1, 1) := by decide +kernel
theorem dX6_readCores_79 : decode cX6_readCores 79 = .ok (.iload_n 2, 1) := by decide +kernel
theorem dX6_readCores_80 : decode cX6_readCores 80 = .ok (.invokevirtual 128, 3) := by decide +kernel
theorem dX6_readCores_83 : decode cX6_readCores 83 = .ok (.ifCond .ne 5, 3) := by decide +kernel
theorem dX6_readCores_86 : decode cX6_readCores 86 = .ok (.iconst 0, 1) := by decide +kernel
theorem dX6_readCores_87 : decode cX6_readCores 87 = .ok (.ireturn, 1) := by decide +kernel
theorem dX6_readCores_88 : decode cX6_readCores 88 = .ok (.iinc 2 1, 3) := by decide +kernel
theorem dX6_readCores_91 : decode cX6_readCores 91 = .ok (.goto (-34), 3) := by decide +kernel
theorem dX6_readCores_94 : decode cX6_readCores 94 = .ok (.aload_n 0, 1) := by decide +kernel
theorem dX6_readCores_95 : decode cX6_readCores 95 = .ok (.getfield 22, 3) := by decide +kernel
theorem dX6_readCores_98 : decode cX6_readCores 98 = .ok (.aload_n 0, 1) := by decide +kernel
theorem dX6_readCores_99 : decode cX6_readCores 99 = .ok (.getfield 45, 3) := by decide +kernel
theorem dX6_readCores_102 : decode cX6_readCores 102 = .ok (.iaload, 1) := by decide +kernel
theorem dX6_readCores_103 : decode cX6_readCores 103 = .ok (.bipush 8, 2) := by decide +kernel
theorem dX6_readCores_105 : decode cX6_readCores 105 = .ok (.if_icmp .gt 9, 3) := by decide +kernel
theorem dX6_readCores_108 : decode cX6_readCores 108 = .ok (.aload_n 0, 1) := by decide +kernel
theorem dX6_readCores_109 : decode cX6_readCores 109 = .ok (.iconst 2, 1) := by decide +kernel
theorem dX6_readCores_110 : decode cX6_readCores 110 = .ok (.invokevirtual 96, 3) := by decide +kernel
theorem dX6_readCores_113 : decode cX6_readCores 113 = .ok (.ireturn, 1) := by decide +kernel
theorem dX6_readCores_114 : decode cX6_readCores 114 = .ok (.aload_n 0, 1) := by decide +kernel
theorem dX6_readCores_115 : decode cX6_readCores 115 = .ok (.bipush 11, 2) := by decide +kernel
theorem dX6_readCores_117 : decode cX6_readCores 117 = .ok (.invokevirtual 102, 3) := by decide +kernel
theorem dX6_readCores_120 : decode cX6_readCores 120 = .ok (.ifCond .ne 5, 3) := by decide +kernel
theorem dX6_readCores_123 : decode cX6_readCores 123 = .ok (.iconst 0, 1) := by decide +kernel
theorem dX6_readCores_124 : decode cX6_readCores 124 = .ok (.ireturn, 1) := by decide +kernel
theorem dX6_readCores_125 : decode cX6_readCores 125 = .ok (.aload_n 0, 1) := by decide +kernel
theorem dX6_readCores_126 : decode cX6_readCores 126 = .ok (.iload_n 1, 1) := by decide +kernel
theorem dX6_readCores_127 : decode cX6_readCores 127 = .ok (.invokevirtual 132, 3) := by decide +kernel
theorem dX6_readCores_130 : decode cX6_readCores 130 = .ok (.iinc 1 1, 3) := by decide +kernel
theorem dX6_readCores_133 : decode cX6_readCores 133 = .ok (.goto (-131), 3) := by decide +kernel
theorem dX6_readCores_136 : decode cX6_readCores 136 = .ok (.aload_n 0, 1) := by decide +kernel
theorem dX6_readCores_137 : decode cX6_readCores 137 = .ok (.getfield 22, 3) := by decide +kernel
theorem dX6_readCores_140 : decode cX6_readCores 140 = .ok (.aload_n 0, 1) := by decide +kernel
theorem dX6_readCores_141 : decode cX6_readCores 141 = .ok (.getfield 45, 3) := by decide +kernel
theorem dX6_readCores_144 : decode cX6_readCores 144 = .ok (.iaload, 1) := by decide +kernel
theorem dX6_readCores_145 : decode cX6_readCores 145 = .ok (.bipush 21, 2) := by decide +kernel
theorem dX6_readCores_147 : decode cX6_readCores 147 = .ok (.if_icmp .ne 5, 3) := by decide +kernel
theorem dX6_readCores_150 : decode cX6_readCores 150 = .ok (.iconst 1, 1) := by decide +kernel
theorem dX6_readCores_151 : decode cX6_readCores 151 = .ok (.ireturn, 1) := by decide +kernel
theorem dX6_readCores_152 : decode cX6_readCores 152 = .ok (.aload_n 0, 1) := by decide +kernel
theorem dX6_readCores_153 : decode cX6_readCores 153 = .ok (.aload_n 0, 1) := by decide +kernel
theorem dX6_readCores_154 : decode cX6_readCores 154 = .ok (.getfield 22, 3) := by decide +kernel
theorem dX6_readCores_157 : decode cX6_readCores 157 = .ok (.aload_n 0, 1) := by decide +kernel
theorem dX6_readCores_158 : decode cX6_readCores 158 = .ok (.getfield 45, 3) := by decide +kernel
theorem dX6_readCores_161 : decode cX6_readCores 161 = .ok (.iaload, 1) := by decide +kernel
theorem dX6_readCores_162 : decode cX6_readCores 162 = .ok (.bipush 10, 2) := by decide +kernel
theorem dX6_readCores_164 : decode cX6_readCores 164 = .ok (.if_icmp .ne 7, 3) := by decide +kernel
theorem dX6_readCores_167 : decode cX6_readCores 167 = .ok (.iconst 2, 1) := by decide +kernel
theorem dX6_readCores_168 : decode cX6_readCores 168 = .ok (.goto 4, 3) := by decide +kernel
theorem dX6_readCores_171 : decode cX6_readCores 171 = .ok (.iconst 1, 1) := by decide +kernel
theorem dX6_readCores_172 : decode cX6_readCores 172 = .ok (.invokevirtual 96, 3) := by decide +kernel
theorem dX6_readCores_175 : decode cX6_readCores 175 = .ok (.ireturn, 1) := by decide +kernel
theorem dX7_init_0 : decode cX7_init 0 = .ok (.aload_n 0, 1) := by decide +kernel
theorem dX7_init_1 : decode cX7_init 1 = .ok (.invokespecial 5, 3) := by decide +kernel
theorem dX7_init_4 : decode cX7_init 4 = .ok (.aload_n 0, 1) := by decide +kernel
theorem dX7_init_5 : decode cX7_init 5 = .ok (.bipush 34, 2) := by decide +kernel
theorem dX7_init_7 : decode cX7_init 7 = .ok (.newarray .int, 2) := by decide +kernel
theorem dX7_init_9 : decode cX7_init 9 = .ok (.putfield 11, 3) := by decide +kernel
theorem dX7_init_12 : decode cX7_init 12 = .ok (.return_, 1) := by decide +kernel
set_option maxRecDepth 20000 in
theorem ggX8_init_X6_init : GoodIn wsX8_init wsX6_init := goodIn_r _ [33, 34, 2, 3, 35, 12, 13, 36, 37, 38, 39, 40, 41, 42, 43, 44, 45, 46, 47, 48, 101, 102, 103, 104, 89, 90, 91, 92, 93, 94, 95, 96, 97, 98, 99, 100] (by decide +kernel) (by decide +kernel)
set_option maxRecDepth 20000 in
theorem gX8_init_X6_init_n15 : GoodIn wsX8_init (wsX6_init) := ggX8_init_X6_init
set_option maxRecDepth 20000 in
theorem ggX8_init_X4_init : GoodIn wsX8_init wsX4_init := goodIn_r _ [44, 45, 2, 3, 38, 46, 47, 48, 101, 102, 103, 104] (by decide +kernel) (by decide +kernel)
set_option maxRecDepth 20000 in
theorem gX8_init_X4_init_n26 : GoodIn wsX8_init (wsX4_init) := ggX8_init_X4_init
set_option maxRecDepth 20000 in
theorem ggX8_init_X3_init : GoodIn wsX8_init wsX3_init := goodIn_r _ [50, 51, 2, 3, 52, 53, 54, 55, 38, 56, 57, 58, 59, 60, 128, 105, 106, 107, 108, 109] (by decide +kernel) (by decide +kernel)
set_option maxRecDepth 20000 in
theorem gX8_init_X3_init_n33 : GoodIn wsX8_init (wsX3_init) := ggX8_init_X3_init
set_option maxRecDepth 20000 in
theorem ggX8_init_X2_init : GoodIn wsX8_init wsX2_init := goodIn_r _ [62, 63, 2, 3, 38, 64, 110, 111, 112, 113, 114] (by decide +kernel) (by decide +kernel)
set_option maxRecDepth 20000 in
theorem gX8_init_X2_init_n40 : GoodIn wsX8_init (wsX2_init) := ggX8_init_X2_init
set_option maxRecDepth 20000 in
theorem ggX8_init_X5_init : GoodIn wsX8_init wsX5_init := goodIn_r _ [66, 67, 2, 3, 38, 68, 115, 116, 117, 118, 119, 120, 121] (by decide +kernel) (by decide +kernel)
set_option maxRecDepth 20000 in
theorem gX8_init_X5_init_n50 : GoodIn wsX8_init (wsX5_init) := ggX8_init_X5_init
set_option maxRecDepth 20000 in
theorem ggX8_init_X0_init : GoodIn wsX8_init wsX0_init := goodIn_r _ [70, 71, 2, 3, 72, 12, 13, 73, 74, 38, 75, 76, 43, 44, 45, 46, 47, 48, 101, 102, 103, 104, 122, 123, 124, 125, 126, 127] (by decide +kernel) (by decide +kernel)
set_option maxRecDepth 20000 in
theorem gX8_init_X0_init_n57 : GoodIn wsX8_init (wsX0_init) := ggX8_init_X0_init
theorem dX8_init_0 : decode cX8_init 0 = .ok (.aload_n 0, 1) := by decide +kernel
theorem dX8_init_1 : decode cX8_init 1 = .ok (.invokespecial 3, 3) := by decide +kernel
theorem dX8_init_4 : decode cX8_init 4 = .ok (.aload_n 0, 1) := by decide +kernel
theorem dX8_init_5 : decode cX8_init 5 = .ok (.sipush 4000, 3) := by decide +kernel
theorem dX8_init_8 : decode cX8_init 8 = .ok (.newarray .byte, 2) := by decide +kernel
theorem dX8_init_10 : decode cX8_init 10 = .ok (.putfield 9, 3) := by decide +kernel
theorem dX8_init_13 : decode cX8_init 13 = .ok (.aload_n 0, 1) := by decide +kernel
theorem dX8_init_14 : decode cX8_init 14 = .ok (.new 13, 3) := by decide +kernel
theorem dX8_init_17 : decode cX8_init 17 = .ok (.dup, 1) := by decide +kernel
theorem dX8_init_18 : decode cX8_init 18 = .ok (.invokespecial 15, 3) := by decide +kernel
theorem dX8_init_21 : decode cX8_init 21 = .ok (.putfield 16, 3) := by decide +kernel
theorem dX8_init_24 : decode cX8_init 24 = .ok (.aload_n 0, 1) := by decide +kernel
theorem dX8_init_25 : decode cX8_init 25 = .ok (.iconst (-1), 1) := by decide +kernel
theorem dX8_init_26 : decode cX8_init 26 = .ok (.putfield 20, 3) := by decide +kernel
theorem dX8_init_29 : decode cX8_init 29 = .ok (.aload_n 0, 1) := by decide +kernel
theorem dX8_init_30 : decode cX8_init 30 = .ok (.new 24, 3) := by decide +kernel
theorem dX8_init_33 : decode cX8_init 33 = .ok (.dup, 1) := by decide +kernel
theorem dX8_init_34 : decode cX8_init 34 = .ok (.invokespecial 26, 3) := by decide +kernel
theorem dX8_init_37 : decode cX8_init 37 = .ok (.putfield 27, 3) := by decide +kernel
theorem dX8_init_40 : decode cX8_init 40 = .ok (.aload_n 0, 1) := by decide +kernel
theorem dX8_init_41 : decode cX8_init 41 = .ok (.new 31, 3) := by decide +kernel
theorem dX8_init_44 : decode cX8_init 44 = .ok (.dup, 1) := by decide +kernel
theorem dX8_init_45 : decode cX8_init 45 = .ok (.invokespecial 33, 3) := by decide +kernel
theorem dX8_init_48 : decode cX8_init 48 = .ok (.putfield 34, 3) := by decide +kernel
theorem dX8_init_51 : decode cX8_init 51 = .ok (.aload_n 0, 1) := by decide +kernel
theorem dX8_init_52 : decode cX8_init 52 = .ok (.new 38, 3) := by decide +kernel
theorem dX8_init_55 : decode cX8_init 55 = .ok (.dup, 1) := by decide +kernel
theorem dX8_init_56 : decode cX8_init 56 = .ok (.invokespecial 40, 3) := by decide +kernel
theorem dX8_init_59 : decode cX8_init 59 = .ok (.putfield 41, 3) := by decide +kernel
theorem dX8_init_62 : decode cX8_init 62 = .ok (.aload_n 0, 1) := by decide +kernel
theorem dX8_init_63 : decode cX8_init 63 = .ok (.new 38, 3) := by decide +kernel
theorem dX8_init_66 : decode cX8_init 66 = .ok (.dup, 1) := by decide +kernel
theorem dX8_init_67 : decode cX8_init 67 = .ok (.invokespecial 40, 3) := by decide +kernel
theorem dX8_init_70 : decode cX8_init 70 = .ok (.putfield 45, 3) := by decide +kernel
theorem dX8_init_73 : decode cX8_init 73 = .ok (.aload_n 0, 1) := by decide +kernel
theorem dX8_init_74 : decode cX8_init 74 = .ok (.new 48, 3) := by decide +kernel
theorem dX8_init_77 : decode cX8_init 77 = .ok (.dup, 1) := by decide +kernel
theorem dX8_init_78 : decode cX8_init 78 = .ok (.invokespecial 50, 3) := by decide +kernel
theorem dX8_init_81 : decode cX8_init 81 = .ok (.putfield 51, 3) := by decide +kernel
theorem dX8_init_84 : decode cX8_init 84 = .ok (.aload_n 0, 1) := by decide +kernel
theorem dX8_init_85 : decode cX8_init 85 = .ok (.new 55, 3) := by decide +kernel
theorem dX8_init_88 : decode cX8_init 88 = .ok (.dup, 1) := by decide +kernel
theorem dX8_init_89 : decode cX8_init 89 = .ok (.invokespecial 57, 3) := by decide +kernel
theorem dX8_init_92 : decode cX8_init 92 = .ok (.putfield 58, 3) := by decide +kernel
theorem dX8_init_95 : decode cX8_init 95 = .ok (.return_, 1) := by decide +kernel
set_option maxRecDepth 20000 in
theorem ggX8_feed_X8_feedWord : GoodIn wsX8_feed wsX8_feedWord := goodIn_r _ [6, 1, 7, 8, 9, 10, 11, 12, 13, 14, 15, 16, 17, 18, 19] (by decide +kernel) (by decide +kernel)
set_option maxRecDepth 20000 in
theorem gX8_feed_X8_feedWord : GoodIn wsX8_feed (wsV RX8 65 RX8 yX8_feedWord wsX8_feedWord) := goodIn_app (goodIn_of _ (by decide +kernel)) ggX8_feed_X8_feedWord
theorem dX8_feed_0 : decode cX8_feed 0 = .ok (.aload_n 0, 1) := by decide +kernel
theorem dX8_feed_1 : decode cX8_feed 1 = .ok (.getfield 62, 3) := by decide +kernel
theorem dX8_feed_4 : decode cX8_feed 4 = .ok (.bipush 20, 2) := by decide +kernel
theorem dX8_feed_6 : decode cX8_feed 6 = .ok (.iadd, 1) := by decide +kernel
theorem dX8_feed_7 : decode cX8_feed 7 = .ok (.sipush 4000, 3) := by decide +kernel
theorem dX8_feed_10 : decode cX8_feed 10 = .ok (.if_icmp .le 5, 3) := by decide +kernel
theorem dX8_feed_13 : decode cX8_feed 13 = .ok (.iconst (-1), 1) := by decide +kernel
theorem dX8_feed_14 : decode cX8_feed 14 = .ok (.ireturn, 1) := by decide +kernel
theorem dX8_feed_15 : decode cX8_feed 15 = .ok (.aload_n 0, 1) := by decide +kernel
theorem dX8_feed_16 : decode cX8_feed 16 = .ok (.iload_n 1, 1) := by decide +kernel
theorem dX8_feed_17 : decode cX8_feed 17 = .ok (.invokevirtual 65, 3) := by decide +kernel
theorem dX8_feed_20 : decode cX8_feed 20 = .ok (.aload_n 0, 1) := by decide +kernel
theorem dX8_feed_21 : decode cX8_feed 21 = .ok (.iload_n 2, 1) := by decide +kernel
theorem dX8_feed_22 : decode cX8_feed 22 = .ok (.invokevirtual 65, 3) := by decide +kernel
theorem dX8_feed_25 : decode cX8_feed 25 = .ok (.aload_n 0, 1) := by decide +kernel
theorem dX8_feed_26 : decode cX8_feed 26 = .ok (.iload_n 3, 1) := by decide +kernel
theorem dX8_feed_27 : decode cX8_feed 27 = .ok (.invokevirtual 65, 3) := by decide +kernel
theorem dX8_feed_30 : decode cX8_feed 30 = .ok (.aload_n 0, 1) := by decide +kernel
theorem dX8_feed_31 : decode cX8_feed 31 = .ok (.iload 4, 2) := by decide +kernel
theorem dX8_feed_33 : decode cX8_feed 33 = .ok (.invokevirtual 65, 3) := by decide +kernel
theorem dX8_feed_36 : decode cX8_feed 36 = .ok (.aload_n 0, 1) := by decide +kernel
theorem dX8_feed_37 : decode cX8_feed 37 = .ok (.iload 5, 2) := by decide +kernel
theorem dX8_feed_39 : decode cX8_feed 39 = .ok (.invokevirtual 65, 3) := by decide +kernel
theorem dX8_feed_42 : decode cX8_feed 42 = .ok (.aload_n 0, 1) := by decide +kernel
theorem dX8_feed_43 : decode cX8_feed 43 = .ok (.getfield 62, 3) := by decide +kernel
theorem dX8_feed_46 : decode cX8_feed 46 = .ok (.ireturn, 1) := by decide +kernel
theorem dX8_feedWord_0 : decode cX8_feedWord 0 = .ok (.bipush 24, 2) := by decide +kernel
theorem dX8_feedWord_2 : decode cX8_feedWord 2 = .ok (.istore_n 2, 1) := by decide +kernel
theorem dX8_feedWord_3 : decode cX8_feedWord 3 = .ok (.iload_n 2, 1) := by decide +kernel
theorem dX8_feedWord_4 : decode cX8_feedWord 4 = .ok (.ifCond .lt 42, 3) := by decide +kernel
theorem dX8_feedWord_7 : decode cX8_feedWord 7 = .ok (.aload_n 0, 1) := by decide +kernel
theorem dX8_feedWord_8 : decode cX8_feedWord 8 = .ok (.getfield 62, 3) := by decide +kernel
theorem dX8_feedWord_11 : decode cX8_feedWord 11 = .ok (.sipush 4000, 3) := by decide +kernel
theorem dX8_feedWord_14 : decode cX8_feedWord 14 = .ok (.if_icmp .ge 32, 3) := by decide +kernel
theorem dX8_feedWord_17 : decode cX8_feedWord 17 = .ok (.aload_n 0, 1) := by decide +kernel
theorem dX8_feedWord_18 : decode cX8_feedWord 18 = .ok (.getfield 9, 3) := by decide +kernel
theorem dX8_feedWord_21 : decode cX8_feedWord 21 = .ok (.aload_n 0, 1) := by decide +kernel
theorem dX8_feedWord_22 : decode cX8_feedWord 22 = .ok (.getfield 62, 3) := by decide +kernel
theorem dX8_feedWord_25 : decode cX8_feedWord 25 = .ok (.iload_n 1, 1) := by decide +kernel
theorem dX8_feedWord_26 : decode cX8_feedWord 26 = .ok (.iload_n 2, 1) := by decide +kernel
theorem dX8_feedWord_27 : decode cX8_feedWord 27 = .ok (.ishr, 1) := by decide +kernel
theorem dX8_feedWord_28 : decode cX8_feedWord 28 = .ok (.i2b, 1) := by decide +kernel
theorem dX8_feedWord_29 : decode cX8_feedWord 29 = .ok (.bastore, 1) := by decide +kernel
theorem dX8_feedWord_30 : decode cX8_feedWord 30 = .ok (.aload_n 0, 1) := by decide +kernel
theorem dX8_feedWord_31 : decode cX8_feedWord 31 = .ok (.dup, 1) := by decide +kernel
theorem dX8_feedWord_32 : decode cX8_feedWord 32 = .ok (.getfield 62, 3) := by decide +kernel
theorem dX8_feedWord_35 : decode cX8_feedWord 35 = .ok (.iconst 1, 1) := by decide +kernel
theorem dX8_feedWord_36 : decode cX8_feedWord 36 = .ok (.iadd, 1) := by decide +kernel
theorem dX8_feedWord_37 : decode cX8_feedWord 37 = .ok (.putfield 62, 3) := by decide +kernel
theorem dX8_feedWord_40 : decode cX8_feedWord 40 = .ok (.iinc 2 (-8), 3) := by decide +kernel
theorem dX8_feedWord_43 : decode cX8_feedWord 43 = .ok (.goto (-40), 3) := by decide +kernel
theorem dX8_feedWord_46 : decode cX8_feedWord 46 = .ok (.return_, 1) := by decide +kernel
theorem dX8_back_0 : decode cX8_back 0 = .ok (.iload_n 1, 1) := by decide +kernel
theorem dX8_back_1 : decode cX8_back 1 = .ok (.ifCond .lt 11, 3) := by decide +kernel
theorem dX8_back_4 : decode cX8_back 4 = .ok (.iload_n 1, 1) := by decide +kernel
theorem dX8_back_5 : decode cX8_back 5 = .ok (.aload_n 0, 1) := by decide +kernel
theorem dX8_back_6 : decode cX8_back 6 = .ok (.getfield 62, 3) := by decide +kernel
theorem dX8_back_9 : decode cX8_back 9 = .ok (.if_icmp .le 5, 3) := by decide +kernel
theorem dX8_back_12 : decode cX8_back 12 = .ok (.iconst (-1), 1) := by decide +kernel
theorem dX8_back_13 : decode cX8_back 13 = .ok (.ireturn, 1) := by decide +kernel
theorem dX8_back_14 : decode cX8_back 14 = .ok (.aload_n 0, 1) := by decide +kernel
theorem dX8_back_15 : decode cX8_back 15 = .ok (.dup, 1) := by decide +kernel
theorem dX8_back_16 : decode cX8_back 16 = .ok (.getfield 62, 3) := by decide +kernel
theorem dX8_back_19 : decode cX8_back 19 = .ok (.iload_n 1, 1) := by decide +kernel
theorem dX8_back_20 : decode cX8_back 20 = .ok (.isub, 1) := by decide +kernel
theorem dX8_back_21 : decode cX8_back 21 = .ok (.putfield 62, 3) := by decide +kernel
theorem dX8_back_24 : decode cX8_back 24 = .ok (.aload_n 0, 1) := by decide +kernel
theorem dX8_back_25 : decode cX8_back 25 = .ok (.getfield 62, 3) := by decide +kernel
theorem dX8_back_28 : decode cX8_back 28 = .ok (.ireturn, 1) := by decide +kernel
set_option maxRecDepth 20000 in
theorem ggX8_read_X6_readText : GoodIn wsX8_read wsX6_readText := goodIn_r _ [13, 14, 15, 16, 17, 18, 19, 20, 21, 22, 12, 23, 24, 25, 26, 27, 28, 29, 30, 31, 32, 33, 34, 35, 36, 37, 38, 39, 40, 41, 42, 43, 44, 45, 46, 47, 48, 49, 50, 51, 52, 53, 54, 55, 56, 57, 58, 59, 60, 61, 62, 63, 64, 65, 66, 67, 68, 69, 70, 71, 72, 73, 74, 75, 76, 77, 78, 79, 80, 81, 82, 83, 84, 85, 86, 87, 88, 89, 90, 91, 92, 93, 94, 95, 96, 97, 98, 99, 100, 101, 102, 103, 104, 105, 106, 107, 108, 109, 110, 111, 112, 113, 114, 115, 116, 117, 118, 119, 120, 121, 122, 123, 124, 125, 126, 127, 128, 129, 130, 131, 132, 133, 134, 135, 136, 137, 138, 139, 140, 141, 142, 143, 144, 145, 146, 147, 148, 149, 150, 151, 152, 153, 154, 155, 156, 157, 158, 159, 160, 161, 162, 163, 164, 165, 166, 167, 168, 169, 170, 171, 172, 173, 174, 175, 176, 177, 178, 179, 180, 181, 182, 183, 184, 185, 218, 219, 220, 221, 222, 223, 224, 225, 226, 227, 228, 229, 230, 231, 232, 233] (by decide +kernel) (by decide +kernel)
set_option maxRecDepth 20000 in
theorem gX8_read_X6_readText : GoodIn wsX8_read (wsV RX8 69 RX6 yX6_readText wsX6_readText) := goodIn_app (goodIn_of _ (by decide +kernel)) ggX8_read_X6_readText
theorem dX8_read_0 : decode cX8_read 0 = .ok (.aload_n 0, 1) := by decide +kernel
theorem dX8_read_1 : decode cX8_read 1 = .ok (.getfield 16, 3) := by decide +kernel
theorem dX8_read_4 : decode cX8_read 4 = .ok (.aload_n 0, 1) := by decide +kernel
theorem dX8_read_5 : decode cX8_read 5 = .ok (.getfield 9, 3) := by decide +kernel
theorem dX8_read_8 : decode cX8_read 8 = .ok (.aload_n 0, 1) := by decide +kernel
theorem dX8_read_9 : decode cX8_read 9 = .ok (.getfield 62, 3) := by decide +kernel
theorem dX8_read_12 : decode cX8_read 12 = .ok (.invokevirtual 69, 3) := by decide +kernel
theorem dX8_read_15 : decode cX8_read 15 = .ok (.istore_n 1, 1) := by decide +kernel
theorem dX8_read_16 : decode cX8_read 16 = .ok (.aload_n 0, 1) := by decide +kernel
theorem dX8_read_17 : decode cX8_read 17 = .ok (.aload_n 0, 1) := by decide +kernel
theorem dX8_read_18 : decode cX8_read 18 = .ok (.getfield 16, 3) := by decide +kernel
theorem dX8_read_21 : decode cX8_read 21 = .ok (.getfield 73, 3) := by decide +kernel
theorem dX8_read_24 : decode cX8_read 24 = .ok (.putfield 20, 3) := by decide +kernel
theorem dX8_read_27 : decode cX8_read 27 = .ok (.aload_n 0, 1) := by decide +kernel
theorem dX8_read_28 : decode cX8_read 28 = .ok (.iconst 0, 1) := by decide +kernel
theorem dX8_read_29 : decode cX8_read 29 = .ok (.putfield 62, 3) := by decide +kernel
theorem dX8_read_32 : decode cX8_read 32 = .ok (.iload_n 1, 1) := by decide +kernel
theorem dX8_read_33 : decode cX8_read 33 = .ok (.ifCond .ne 36, 3) := by decide +kernel
theorem dX8_read_36 : decode cX8_read 36 = .ok (.aload_n 0, 1) := by decide +kernel
theorem dX8_read_37 : decode cX8_read 37 = .ok (.getfield 27, 3) := by decide +kernel
theorem dX8_read_40 : decode cX8_read 40 = .ok (.astore_n 2, 1) := by decide +kernel
theorem dX8_read_41 : decode cX8_read 41 = .ok (.aload_n 0, 1) := by decide +kernel
theorem dX8_read_42 : decode cX8_read 42 = .ok (.aload_n 0, 1) := by decide +kernel
theorem dX8_read_43 : decode cX8_read 43 = .ok (.getfield 16, 3) := by decide +kernel
theorem dX8_read_46 : decode cX8_read 46 = .ok (.getfield 76, 3) := by decide +kernel
theorem dX8_read_49 : decode cX8_read 49 = .ok (.putfield 27, 3) := by decide +kernel
theorem dX8_read_52 : decode cX8_read 52 = .ok (.aload_n 0, 1) := by decide +kernel
theorem dX8_read_53 : decode cX8_read 53 = .ok (.getfield 16, 3) := by decide +kernel
theorem dX8_read_56 : decode cX8_read 56 = .ok (.aload_n 2, 1) := by decide +kernel
theorem dX8_read_57 : decode cX8_read 57 = .ok (.putfield 76, 3) := by decide +kernel
theorem dX8_read_60 : decode cX8_read 60 = .ok (.aload_n 0, 1) := by decide +kernel
theorem dX8_read_61 : decode cX8_read 61 = .ok (.iconst 1, 1) := by decide +kernel
theorem dX8_read_62 : decode cX8_read 62 = .ok (.putfield 79, 3) := by decide +kernel
theorem dX8_read_65 : decode cX8_read 65 = .ok (.aload_n 0, 1) := by decide +kernel
theorem dX8_read_66 : decode cX8_read 66 = .ok (.invokevirtual 83, 3) := by decide +kernel
theorem dX8_read_69 : decode cX8_read 69 = .ok (.iload_n 1, 1) := by decide +kernel
theorem dX8_read_70 : decode cX8_read 70 = .ok (.ireturn, 1) := by decide +kernel
theorem dX8_place_0 : decode cX8_place 0 = .ok (.aload_n 0, 1) := by decide +kernel
theorem dX8_place_1 : decode cX8_place 1 = .ok (.getfield 20, 3) := by decide +kernel
theorem dX8_place_4 : decode cX8_place 4 = .ok (.ireturn, 1) := by decide +kernel
set_option maxRecDepth 20000 in
theorem ggX8_ins_X8_hasCore : GoodIn wsX8_ins wsX8_hasCore := goodIn_r _ [7, 8, 1, 9, 19, 20, 21, 22, 23, 24, 25, 26, 27, 28, 29, 30, 31, 32, 33, 34] (by decide +kernel) (by decide +kernel)
set_option maxRecDepth 20000 in
theorem gX8_ins_X8_hasCore : GoodIn wsX8_ins (wsV RX8 96 RX8 yX8_hasCore wsX8_hasCore) := goodIn_app (goodIn_of _ (by decide +kernel)) ggX8_ins_X8_hasCore
theorem dX8_ins_0 : decode cX8_ins 0 = .ok (.aload_n 0, 1) := by decide +kernel
theorem dX8_ins_1 : decode cX8_ins 1 = .ok (.iload_n 1, 1) := by decide +kernel
theorem dX8_ins_2 : decode cX8_ins 2 = .ok (.invokevirtual 96, 3) := by decide +kernel
theorem dX8_ins_5 : decode cX8_ins 5 = .ok (.ifCond .eq 30, 3) := by decide +kernel
theorem dX8_ins_8 : decode cX8_ins 8 = .ok (.iload_n 2, 1) := by decide +kernel
theorem dX8_ins_9 : decode cX8_ins 9 = .ok (.ifCond .lt 26, 3) := by decide +kernel
theorem dX8_ins_12 : decode cX8_ins 12 = .ok (.iload_n 2, 1) := by decide +kernel
theorem dX8_ins_13 : decode cX8_ins 13 = .ok (.aload_n 0, 1) := by decide +kernel
theorem dX8_ins_14 : decode cX8_ins 14 = .ok (.getfield 27, 3) := by decide +kernel
theorem dX8_ins_17 : decode cX8_ins 17 = .ok (.getfield 100, 3) := by decide +kernel
theorem dX8_ins_20 : decode cX8_ins 20 = .ok (.iload_n 1, 1) := by decide +kernel
theorem dX8_ins_21 : decode cX8_ins 21 = .ok (.iaload, 1) := by decide +kernel
theorem dX8_ins_22 : decode cX8_ins 22 = .ok (.if_icmp .ge 13, 3) := by decide +kernel
theorem dX8_ins_25 : decode cX8_ins 25 = .ok (.iload_n 3, 1) := by decide +kernel
theorem dX8_ins_26 : decode cX8_ins 26 = .ok (.ifCond .lt 9, 3) := by decide +kernel
theorem dX8_ins_29 : decode cX8_ins 29 = .ok (.iload_n 3, 1) := by decide +kernel
theorem dX8_ins_30 : decode cX8_ins 30 = .ok (.bipush 8, 2) := by decide +kernel
theorem dX8_ins_32 : decode cX8_ins 32 = .ok (.if_icmp .lt 5, 3) := by decide +kernel
theorem dX8_ins_35 : decode cX8_ins 35 = .ok (.iconst (-1), 1) := by decide +kernel
theorem dX8_ins_36 : decode cX8_ins 36 = .ok (.ireturn, 1) := by decide +kernel
theorem dX8_ins_37 : decode cX8_ins 37 = .ok (.aload_n 0, 1) := by decide +kernel
theorem dX8_ins_38 : decode cX8_ins 38 = .ok (.getfield 27, 3) := by decide +kernel
theorem dX8_ins_41 : decode cX8_ins 41 = .ok (.iload_n 1, 1) := by decide +kernel
theorem dX8_ins_42 : decode cX8_ins 42 = .ok (.iload_n 2, 1) := by decide +kernel
theorem dX8_ins_43 : decode cX8_ins 43 = .ok (.iload_n 3, 1) := by decide +kernel
theorem dX8_ins_44 : decode cX8_ins 44 = .ok (.invokevirtual 104, 3) := by decide +kernel
theorem dX8_ins_47 : decode cX8_ins 47 = .ok (.ireturn, 1) := by decide +kernel
theorem dX8_hasCore_0 : decode cX8_hasCore 0 = .ok (.aload_n 0, 1) := by decide +kernel
theorem dX8_hasCore_1 : decode cX8_hasCore 1 = .ok (.getfield 79, 3) := by decide +kernel
theorem dX8_hasCore_4 : decode cX8_hasCore 4 = .ok (.ifCond .eq 22, 3) := by decide +kernel
theorem dX8_hasCore_7 : decode cX8_hasCore 7 = .ok (.iload_n 1, 1) := by decide +kernel
theorem dX8_hasCore_8 : decode cX8_hasCore 8 = .ok (.ifCond .lt 18, 3) := by decide +kernel
theorem dX8_hasCore_11 : decode cX8_hasCore 11 = .ok (.iload_n 1, 1) := by decide +kernel
theorem dX8_hasCore_12 : decode cX8_hasCore 12 = .ok (.aload_n 0, 1) := by decide +kernel
theorem dX8_hasCore_13 : decode cX8_hasCore 13 = .ok (.getfield 27, 3) := by decide +kernel
theorem dX8_hasCore_16 : decode cX8_hasCore 16 = .ok (.getfield 108, 3) := by decide +kernel
theorem dX8_hasCore_19 : decode cX8_hasCore 19 = .ok (.if_icmp .ge 7, 3) := by decide +kernel
theorem dX8_hasCore_22 : decode cX8_hasCore 22 = .ok (.iconst 1, 1) := by decide +kernel
theorem dX8_hasCore_23 : decode cX8_hasCore 23 = .ok (.goto 4, 3) := by decide +kernel
theorem dX8_hasCore_26 : decode cX8_hasCore 26 = .ok (.iconst 0, 1) := by decide +kernel
theorem dX8_hasCore_27 : decode cX8_hasCore 27 = .ok (.ireturn, 1) := by decide +kernel
theorem dX8_begin_0 : decode cX8_begin 0 = .ok (.aload_n 0, 1) := by decide +kernel
theorem dX8_begin_1 : decode cX8_begin 1 = .ok (.getfield 79, 3) := by decide +kernel
theorem dX8_begin_4 : decode cX8_begin 4 = .ok (.ifCond .eq 10, 3) := by decide +kernel
theorem dX8_begin_7 : decode cX8_begin 7 = .ok (.iload_n 1, 1) := by decide +kernel
theorem dX8_begin_8 : decode cX8_begin 8 = .ok (.invokestatic 111, 3) := by decide +kernel
theorem dX8_begin_11 : decode cX8_begin 11 = .ok (.ifCond .ne 5, 3) := by decide +kernel
theorem dX8_begin_14 : decode cX8_begin 14 = .ok (.iconst 0, 1) := by decide +kernel
theorem dX8_begin_15 : decode cX8_begin 15 = .ok (.ireturn, 1) := by decide +kernel
theorem dX8_begin_16 : decode cX8_begin 16 = .ok (.aload_n 0, 1) := by decide +kernel
theorem dX8_begin_17 : decode cX8_begin 17 = .ok (.getfield 34, 3) := by decide +kernel
theorem dX8_begin_20 : decode cX8_begin 20 = .ok (.aload_n 0, 1) := by decide +kernel
theorem dX8_begin_21 : decode cX8_begin 21 = .ok (.getfield 27, 3) := by decide +kernel
theorem dX8_begin_24 : decode cX8_begin 24 = .ok (.iload_n 1, 1) := by decide +kernel
theorem dX8_begin_25 : decode cX8_begin 25 = .ok (.invokevirtual 114, 3) := by decide +kernel
theorem dX8_begin_28 : decode cX8_begin 28 = .ok (.iconst 1, 1) := by decide +kernel
theorem dX8_begin_29 : decode cX8_begin 29 = .ok (.ireturn, 1) := by decide +kernel
theorem dX8_step_0 : decode cX8_step 0 = .ok (.aload_n 0, 1) := by decide +kernel
theorem dX8_step_1 : decode cX8_step 1 = .ok (.getfield 34, 3) := by decide +kernel
theorem dX8_step_4 : decode cX8_step 4 = .ok (.getfield 86, 3) := by decide +kernel
theorem dX8_step_7 : decode cX8_step 7 = .ok (.ifCond .eq 22, 3) := by decide +kernel
theorem dX8_step_10 : decode cX8_step 10 = .ok (.aload_n 0, 1) := by decide +kernel
theorem dX8_step_11 : decode cX8_step 11 = .ok (.getfield 34, 3) := by decide +kernel
theorem dX8_step_14 : decode cX8_step 14 = .ok (.aload_n 0, 1) := by decide +kernel
theorem dX8_step_15 : decode cX8_step 15 = .ok (.getfield 27, 3) := by decide +kernel
theorem dX8_step_18 : decode cX8_step 18 = .ok (.iload_n 1, 1) := by decide +kernel
theorem dX8_step_19 : decode cX8_step 19 = .ok (.invokevirtual 118, 3) := by decide +kernel
theorem dX8_step_22 : decode cX8_step 22 = .ok (.ifCond .eq 7, 3) := by decide +kernel
theorem dX8_step_25 : decode cX8_step 25 = .ok (.iconst 1, 1) := by decide +kernel
theorem dX8_step_26 : decode cX8_step 26 = .ok (.goto 4, 3) := by decide +kernel
theorem dX8_step_29 : decode cX8_step 29 = .ok (.iconst 0, 1) := by decide +kernel
theorem dX8_step_30 : decode cX8_step 30 = .ok (.ireturn, 1) := by decide +kernel
theorem dX8_undo_0 : decode cX8_undo 0 = .ok (.aload_n 0, 1) := by decide +kernel
theorem dX8_undo_1 : decode cX8_undo 1 = .ok (.getfield 34, 3) := by decide +kernel
theorem dX8_undo_4 : decode cX8_undo 4 = .ok (.getfield 86, 3) := by decide +kernel
theorem dX8_undo_7 : decode cX8_undo 7 = .ok (.ifCond .eq 21, 3) := by decide +kernel
theorem dX8_undo_10 : decode cX8_undo 10 = .ok (.aload_n 0, 1) := by decide +kernel
theorem dX8_undo_11 : decode cX8_undo 11 = .ok (.getfield 34, 3) := by decide +kernel
theorem dX8_undo_14 : decode cX8_undo 14 = .ok (.aload_n 0, 1) := by decide +kernel
theorem dX8_undo_15 : decode cX8_undo 15 = .ok (.getfield 27, 3) := by decide +kernel
theorem dX8_undo_18 : decode cX8_undo 18 = .ok (.invokevirtual 122, 3) := by decide +kernel
theorem dX8_undo_21 : decode cX8_undo 21 = .ok (.ifCond .eq 7, 3) := by decide +kernel
theorem dX8_undo_24 : decode cX8_undo 24 = .ok (.iconst 1, 1) := by decide +kernel
theorem dX8_undo_25 : decode cX8_undo 25 = .ok (.goto 4, 3) := by decide +kernel
theorem dX8_undo_28 : decode cX8_undo 28 = .ok (.iconst 0, 1) := by decide +kernel
theorem dX8_undo_29 : decode cX8_undo 29 = .ok (.ireturn, 1) := by decide +kernel
set_option maxRecDepth 20000 in
theorem ggX8_register_X8_hasCore : GoodIn wsX8_register wsX8_hasCore := goodIn_r _ [9, 10, 11, 12, 13, 14, 15, 16, 17, 18, 19, 20, 21, 22, 23, 24, 31, 32, 33, 34] (by decide +kernel) (by decide +kernel)
set_option maxRecDepth 20000 in
theorem gX8_register_X8_hasCore : GoodIn wsX8_register (wsV RX8 96 RX8 yX8_hasCore wsX8_hasCore) := goodIn_app (goodIn_of _ (by decide +kernel)) ggX8_register_X8_hasCore
theorem dX8_register_0 : decode cX8_register 0 = .ok (.aload_n 0, 1) := by decide +kernel
theorem dX8_register_1 : decode cX8_register 1 = .ok (.getfield 34, 3) := by decide +kernel
theorem dX8_register_4 : decode cX8_register 4 = .ok (.getfield 86, 3) := by decide +kernel
theorem dX8_register_7 : decode cX8_register 7 = .ok (.ifCond .eq 20, 3) := by decide +kernel
theorem dX8_register_10 : decode cX8_register 10 = .ok (.aload_n 0, 1) := by decide +kernel
theorem dX8_register_11 : decode cX8_register 11 = .ok (.iload_n 1, 1) := by decide +kernel
theorem dX8_register_12 : decode cX8_register 12 = .ok (.invokevirtual 96, 3) := by decide +kernel
theorem dX8_register_15 : decode cX8_register 15 = .ok (.ifCond .eq 12, 3) := by decide +kernel
theorem dX8_register_18 : decode cX8_register 18 = .ok (.iload_n 2, 1) := by decide +kernel
theorem dX8_register_19 : decode cX8_register 19 = .ok (.ifCond .lt 8, 3) := by decide +kernel
theorem dX8_register_22 : decode cX8_register 22 = .ok (.iload_n 2, 1) := by decide +kernel
theorem dX8_register_23 : decode cX8_register 23 = .ok (.iconst 3, 1) := by decide +kernel
theorem dX8_register_24 : decode cX8_register 24 = .ok (.if_icmp .lt 5, 3) := by decide +kernel
theorem dX8_register_27 : decode cX8_register 27 = .ok (.iconst 0, 1) := by decide +kernel
theorem dX8_register_28 : decode cX8_register 28 = .ok (.ireturn, 1) := by decide +kernel
theorem dX8_register_29 : decode cX8_register 29 = .ok (.aload_n 0, 1) := by decide +kernel
theorem dX8_register_30 : decode cX8_register 30 = .ok (.getfield 34, 3) := by decide +kernel
theorem dX8_register_33 : decode cX8_register 33 = .ok (.getfield 126, 3) := by decide +kernel
theorem dX8_register_36 : decode cX8_register 36 = .ok (.getfield 130, 3) := by decide +kernel
theorem dX8_register_39 : decode cX8_register 39 = .ok (.iload_n 1, 1) := by decide +kernel
theorem dX8_register_40 : decode cX8_register 40 = .ok (.iconst 3, 1) := by decide +kernel
theorem dX8_register_41 : decode cX8_register 41 = .ok (.imul, 1) := by decide +kernel
theorem dX8_register_42 : decode cX8_register 42 = .ok (.iload_n 2, 1) := by decide +kernel
theorem dX8_register_43 : decode cX8_register 43 = .ok (.iadd, 1) := by decide +kernel
theorem dX8_register_44 : decode cX8_register 44 = .ok (.iaload, 1) := by decide +kernel
theorem dX8_register_45 : decode cX8_register 45 = .ok (.ireturn, 1) := by decide +kernel
theorem dX8_memory_0 : decode cX8_memory 0 = .ok (.aload_n 0, 1) := by decide +kernel
theorem dX8_memory_1 : decode cX8_memory 1 = .ok (.getfield 34, 3) := by decide +kernel
theorem dX8_memory_4 : decode cX8_memory 4 = .ok (.getfield 86, 3) := by decide +kernel
theorem dX8_memory_7 : decode cX8_memory 7 = .ok (.ifCond .eq 12, 3) := by decide +kernel
theorem dX8_memory_10 : decode cX8_memory 10 = .ok (.iload_n 1, 1) := by decide +kernel
theorem dX8_memory_11 : decode cX8_memory 11 = .ok (.ifCond .lt 8, 3) := by decide +kernel
theorem dX8_memory_14 : decode cX8_memory 14 = .ok (.iload_n 1, 1) := by decide +kernel
theorem dX8_memory_15 : decode cX8_memory 15 = .ok (.iconst 4, 1) := by decide +kernel
theorem dX8_memory_16 : decode cX8_memory 16 = .ok (.if_icmp .lt 5, 3) := by decide +kernel
theorem dX8_memory_19 : decode cX8_memory 19 = .ok (.iconst 0, 1) := by decide +kernel
theorem dX8_memory_20 : decode cX8_memory 20 = .ok (.ireturn, 1) := by decide +kernel
theorem dX8_memory_21 : decode cX8_memory 21 = .ok (.aload_n 0, 1) := by decide +kernel
theorem dX8_memory_22 : decode cX8_memory 22 = .ok (.getfield 34, 3) := by decide +kernel
theorem dX8_memory_25 : decode cX8_memory 25 = .ok (.getfield 126, 3) := by decide +kernel
theorem dX8_memory_28 : decode cX8_memory 28 = .ok (.getfield 130, 3) := by decide +kernel
theorem dX8_memory_31 : decode cX8_memory 31 = .ok (.bipush 9, 2) := by decide +kernel
theorem dX8_memory_33 : decode cX8_memory 33 = .ok (.iload_n 1, 1) := by decide +kernel
theorem dX8_memory_34 : decode cX8_memory 34 = .ok (.iadd, 1) := by decide +kernel
theorem dX8_memory_35 : decode cX8_memory 35 = .ok (.iaload, 1) := by decide +kernel
theorem dX8_memory_36 : decode cX8_memory 36 = .ok (.ireturn, 1) := by decide +kernel
set_option maxRecDepth 20000 in
theorem ggX8_next_X8_hasCore : GoodIn wsX8_next wsX8_hasCore := goodIn_r _ [8, 9, 10, 11, 18, 19, 20, 21, 22, 23, 24, 25, 26, 27, 28, 29, 35, 36, 37, 38] (by decide +kernel) (by decide +kernel)
set_option maxRecDepth 20000 in
theorem gX8_next_X8_hasCore : GoodIn wsX8_next (wsV RX8 96 RX8 yX8_hasCore wsX8_hasCore) := goodIn_app (goodIn_of _ (by decide +kernel)) ggX8_next_X8_hasCore
theorem dX8_next_0 : decode cX8_next 0 = .ok (.aload_n 0, 1) := by decide +kernel
theorem dX8_next_1 : decode cX8_next 1 = .ok (.getfield 34, 3) := by decide +kernel
theorem dX8_next_4 : decode cX8_next 4 = .ok (.getfield 86, 3) := by decide +kernel
theorem dX8_next_7 : decode cX8_next 7 = .ok (.ifCond .eq 25, 3) := by decide +kernel
theorem dX8_next_10 : decode cX8_next 10 = .ok (.aload_n 0, 1) := by decide +kernel
theorem dX8_next_11 : decode cX8_next 11 = .ok (.iload_n 1, 1) := by decide +kernel
theorem dX8_next_12 : decode cX8_next 12 = .ok (.invokevirtual 96, 3) := by decide +kernel
theorem dX8_next_15 : decode cX8_next 15 = .ok (.ifCond .eq 17, 3) := by decide +kernel
theorem dX8_next_18 : decode cX8_next 18 = .ok (.aload_n 0, 1) := by decide +kernel
theorem dX8_next_19 : decode cX8_next 19 = .ok (.getfield 34, 3) := by decide +kernel
theorem dX8_next_22 : decode cX8_next 22 = .ok (.getfield 126, 3) := by decide +kernel
theorem dX8_next_25 : decode cX8_next 25 = .ok (.iload_n 1, 1) := by decide +kernel
theorem dX8_next_26 : decode cX8_next 26 = .ok (.invokevirtual 135, 3) := by decide +kernel
theorem dX8_next_29 : decode cX8_next 29 = .ok (.goto 4, 3) := by decide +kernel
theorem dX8_next_32 : decode cX8_next 32 = .ok (.iconst (-1), 1) := by decide +kernel
theorem dX8_next_33 : decode cX8_next 33 = .ok (.ireturn, 1) := by decide +kernel
set_option maxRecDepth 20000 in
theorem ggX8_store_X8_hasCore : GoodIn wsX8_store wsX8_hasCore := goodIn_r _ [8, 9, 10, 11, 26, 27, 28, 29, 30, 31, 32, 33, 34, 35, 36, 37, 43, 44, 45, 46] (by decide +kernel) (by decide +kernel)
set_option maxRecDepth 20000 in
theorem gX8_store_X8_hasCore : GoodIn wsX8_store (wsV RX8 96 RX8 yX8_hasCore wsX8_hasCore) := goodIn_app (goodIn_of _ (by decide +kernel)) ggX8_store_X8_hasCore
theorem dX8_store_0 : decode cX8_store 0 = .ok (.aload_n 0, 1) := by decide +kernel
theorem dX8_store_1 : decode cX8_store 1 = .ok (.getfield 34, 3) := by decide +kernel
theorem dX8_store_4 : decode cX8_store 4 = .ok (.getfield 86, 3) := by decide +kernel
theorem dX8_store_7 : decode cX8_store 7 = .ok (.ifCond .eq 30, 3) := by decide +kernel
theorem dX8_store_10 : decode cX8_store 10 = .ok (.aload_n 0, 1) := by decide +kernel
theorem dX8_store_11 : decode cX8_store 11 = .ok (.iload_n 1, 1) := by decide +kernel
theorem dX8_store_12 : decode cX8_store 12 = .ok (.invokevirtual 96, 3) := by decide +kernel
theorem dX8_store_15 : decode cX8_store 15 = .ok (.ifCond .eq 22, 3) := by decide +kernel
theorem dX8_store_18 : decode cX8_store 18 = .ok (.iload_n 2, 1) := by decide +kernel
theorem dX8_store_19 : decode cX8_store 19 = .ok (.ifCond .lt 18, 3) := by decide +kernel
theorem dX8_store_22 : decode cX8_store 22 = .ok (.iload_n 2, 1) := by decide +kernel
theorem dX8_store_23 : decode cX8_store 23 = .ok (.aload_n 0, 1) := by decide +kernel
theorem dX8_store_24 : decode cX8_store 24 = .ok (.getfield 34, 3) := by decide +kernel
theorem dX8_store_27 : decode cX8_store 27 = .ok (.getfield 126, 3) := by decide +kernel
theorem dX8_store_30 : decode cX8_store 30 = .ok (.iload_n 1, 1) := by decide +kernel
theorem dX8_store_31 : decode cX8_store 31 = .ok (.invokevirtual 139, 3) := by decide +kernel
theorem dX8_store_34 : decode cX8_store 34 = .ok (.if_icmp .lt 5, 3) := by decide +kernel
theorem dX8_store_37 : decode cX8_store 37 = .ok (.iconst (-1), 1) := by decide +kernel
theorem dX8_store_38 : decode cX8_store 38 = .ok (.ireturn, 1) := by decide +kernel
theorem dX8_store_39 : decode cX8_store 39 = .ok (.iload_n 3, 1) := by decide +kernel
theorem dX8_store_40 : decode cX8_store 40 = .ok (.ifCond .ne 16, 3) := by decide +kernel
theorem dX8_store_43 : decode cX8_store 43 = .ok (.aload_n 0, 1) := by decide +kernel
theorem dX8_store_44 : decode cX8_store 44 = .ok (.getfield 34, 3) := by decide +kernel
theorem dX8_store_47 : decode cX8_store 47 = .ok (.getfield 126, 3) := by decide +kernel
theorem dX8_store_50 : decode cX8_store 50 = .ok (.iload_n 1, 1) := by decide +kernel
theorem dX8_store_51 : decode cX8_store 51 = .ok (.iload_n 2, 1) := by decide +kernel
theorem dX8_store_52 : decode cX8_store 52 = .ok (.invokevirtual 142, 3) := by decide +kernel
theorem dX8_store_55 : decode cX8_store 55 = .ok (.ireturn, 1) := by decide +kernel
theorem dX8_store_56 : decode cX8_store 56 = .ok (.iload_n 3, 1) := by decide +kernel
theorem dX8_store_57 : decode cX8_store 57 = .ok (.iconst 1, 1) := by decide +kernel
theorem dX8_store_58 : decode cX8_store 58 = .ok (.if_icmp .ne 18, 3) := by decide +kernel
theorem dX8_store_61 : decode cX8_store 61 = .ok (.aload_n 0, 1) := by decide +kernel
theorem dX8_store_62 : decode cX8_store 62 = .ok (.getfield 34, 3) := by decide +kernel
theorem dX8_store_65 : decode cX8_store 65 = .ok (.getfield 126, 3) := by decide +kernel
theorem dX8_store_68 : decode cX8_store 68 = .ok (.iload_n 1, 1) := by decide +kernel
theorem dX8_store_69 : decode cX8_store 69 = .ok (.iload_n 2, 1) := by decide +kernel
theorem dX8_store_70 : decode cX8_store 70 = .ok (.invokevirtual 146, 3) := by decide +kernel
theorem dX8_store_73 : decode cX8_store 73 = .ok (.goto 4, 3) := by decide +kernel
theorem dX8_store_76 : decode cX8_store 76 = .ok (.iconst (-1), 1) := by decide +kernel
theorem dX8_store_77 : decode cX8_store 77 = .ok (.ireturn, 1) := by decide +kernel
theorem dX8_outcomes_0 : decode cX8_outcomes 0 = .ok (.aload_n 0, 1) := by decide +kernel
theorem dX8_outcomes_1 : decode cX8_outcomes 1 = .ok (.getfield 79, 3) := by decide +kernel
theorem dX8_outcomes_4 : decode cX8_outcomes 4 = .ok (.ifCond .eq 10, 3) := by decide +kernel
theorem dX8_outcomes_7 : decode cX8_outcomes 7 = .ok (.iload_n 1, 1) := by decide +kernel
theorem dX8_outcomes_8 : decode cX8_outcomes 8 = .ok (.invokestatic 111, 3) := by decide +kernel
theorem dX8_outcomes_11 : decode cX8_outcomes 11 = .ok (.ifCond .ne 5, 3) := by decide +kernel
theorem dX8_outcomes_14 : decode cX8_outcomes 14 = .ok (.iconst (-1), 1) := by decide +kernel
theorem dX8_outcomes_15 : decode cX8_outcomes 15 = .ok (.ireturn, 1) := by decide +kernel
theorem dX8_outcomes_16 : decode cX8_outcomes 16 = .ok (.aload_n 0, 1) := by decide +kernel
theorem dX8_outcomes_17 : decode cX8_outcomes 17 = .ok (.iload_n 1, 1) := by decide +kernel
theorem dX8_outcomes_18 : decode cX8_outcomes 18 = .ok (.invokevirtual 149, 3) := by decide +kernel
theorem dX8_outcomes_21 : decode cX8_outcomes 21 = .ok (.astore_n 2, 1) := by decide +kernel
theorem dX8_outcomes_22 : decode cX8_outcomes 22 = .ok (.aload_n 2, 1) := by decide +kernel
theorem dX8_outcomes_23 : decode cX8_outcomes 23 = .ok (.getfield 153, 3) := by decide +kernel
theorem dX8_outcomes_26 : decode cX8_outcomes 26 = .ok (.ifCond .eq 8, 3) := by decide +kernel
theorem dX8_outcomes_29 : decode cX8_outcomes 29 = .ok (.bipush (-2), 2) := by decide +kernel
theorem dX8_outcomes_31 : decode cX8_outcomes 31 = .ok (.goto 7, 3) := by decide +kernel
theorem dX8_outcomes_34 : decode cX8_outcomes 34 = .ok (.aload_n 2, 1) := by decide +kernel
theorem dX8_outcomes_35 : decode cX8_outcomes 35 = .ok (.getfield 156, 3) := by decide +kernel
theorem dX8_outcomes_38 : decode cX8_outcomes 38 = .ok (.ireturn, 1) := by decide +kernel
theorem dX8_outcome_0 : decode cX8_outcome 0 = .ok (.aload_n 0, 1) := by decide +kernel
theorem dX8_outcome_1 : decode cX8_outcome 1 = .ok (.getfield 79, 3) := by decide +kernel
theorem dX8_outcome_4 : decode cX8_outcome 4 = .ok (.ifCond .eq 20, 3) := by decide +kernel
theorem dX8_outcome_7 : decode cX8_outcome 7 = .ok (.iload_n 1, 1) := by decide +kernel
theorem dX8_outcome_8 : decode cX8_outcome 8 = .ok (.invokestatic 111, 3) := by decide +kernel
theorem dX8_outcome_11 : decode cX8_outcome 11 = .ok (.ifCond .eq 13, 3) := by decide +kernel
theorem dX8_outcome_14 : decode cX8_outcome 14 = .ok (.iload_n 3, 1) := by decide +kernel
theorem dX8_outcome_15 : decode cX8_outcome 15 = .ok (.ifCond .lt 9, 3) := by decide +kernel
theorem dX8_outcome_18 : decode cX8_outcome 18 = .ok (.iload_n 3, 1) := by decide +kernel
theorem dX8_outcome_19 : decode cX8_outcome 19 = .ok (.bipush 13, 2) := by decide +kernel
theorem dX8_outcome_21 : decode cX8_outcome 21 = .ok (.if_icmp .lt 5, 3) := by decide +kernel
theorem dX8_outcome_24 : decode cX8_outcome 24 = .ok (.iconst 0, 1) := by decide +kernel
theorem dX8_outcome_25 : decode cX8_outcome 25 = .ok (.ireturn, 1) := by decide +kernel
theorem dX8_outcome_26 : decode cX8_outcome 26 = .ok (.aload_n 0, 1) := by decide +kernel
theorem dX8_outcome_27 : decode cX8_outcome 27 = .ok (.iload_n 1, 1) := by decide +kernel
theorem dX8_outcome_28 : decode cX8_outcome 28 = .ok (.invokevirtual 149, 3) := by decide +kernel
theorem dX8_outcome_31 : decode cX8_outcome 31 = .ok (.astore 4, 2) := by decide +kernel
theorem dX8_outcome_33 : decode cX8_outcome 33 = .ok (.aload 4, 2) := by decide +kernel
theorem dX8_outcome_35 : decode cX8_outcome 35 = .ok (.iload_n 2, 1) := by decide +kernel
theorem dX8_outcome_36 : decode cX8_outcome 36 = .ok (.invokevirtual 159, 3) := by decide +kernel
theorem dX8_outcome_39 : decode cX8_outcome 39 = .ok (.ifCond .eq 13, 3) := by decide +kernel
theorem dX8_outcome_42 : decode cX8_outcome 42 = .ok (.aload 4, 2) := by decide +kernel
theorem dX8_outcome_44 : decode cX8_outcome 44 = .ok (.iload_n 2, 1) := by decide +kernel
theorem dX8_outcome_45 : decode cX8_outcome 45 = .ok (.iload_n 3, 1) := by decide +kernel
theorem dX8_outcome_46 : decode cX8_outcome 46 = .ok (.invokevirtual 162, 3) := by decide +kernel
theorem dX8_outcome_49 : decode cX8_outcome 49 = .ok (.goto 4, 3) := by decide +kernel
theorem dX8_outcome_52 : decode cX8_outcome 52 = .ok (.iconst 0, 1) := by decide +kernel
theorem dX8_outcome_53 : decode cX8_outcome 53 = .ok (.ireturn, 1) := by decide +kernel
theorem dX8_schedule_0 : decode cX8_schedule 0 = .ok (.aload_n 0, 1) := by decide +kernel
theorem dX8_schedule_1 : decode cX8_schedule 1 = .ok (.getfield 79, 3) := by decide +kernel
theorem dX8_schedule_4 : decode cX8_schedule 4 = .ok (.ifCond .eq 10, 3) := by decide +kernel
theorem dX8_schedule_7 : decode cX8_schedule 7 = .ok (.iload_n 1, 1) := by decide +kernel
theorem dX8_schedule_8 : decode cX8_schedule 8 = .ok (.invokestatic 111, 3) := by decide +kernel
theorem dX8_schedule_11 : decode cX8_schedule 11 = .ok (.ifCond .ne 5, 3) := by decide +kernel
theorem dX8_schedule_14 : decode cX8_schedule 14 = .ok (.iconst (-1), 1) := by decide +kernel
theorem dX8_schedule_15 : decode cX8_schedule 15 = .ok (.ireturn, 1) := by decide +kernel
theorem dX8_schedule_16 : decode cX8_schedule 16 = .ok (.aload_n 0, 1) := by decide +kernel
theorem dX8_schedule_17 : decode cX8_schedule 17 = .ok (.iload_n 1, 1) := by decide +kernel
theorem dX8_schedule_18 : decode cX8_schedule 18 = .ok (.invokevirtual 149, 3) := by decide +kernel
theorem dX8_schedule_21 : decode cX8_schedule 21 = .ok (.astore 4, 2) := by decide +kernel
theorem dX8_schedule_23 : decode cX8_schedule 23 = .ok (.aload 4, 2) := by decide +kernel
theorem dX8_schedule_25 : decode cX8_schedule 25 = .ok (.iload_n 2, 1) := by decide +kernel
theorem dX8_schedule_26 : decode cX8_schedule 26 = .ok (.invokevirtual 159, 3) := by decide +kernel
theorem dX8_schedule_29 : decode cX8_schedule 29 = .ok (.ifCond .eq 13, 3) := by decide +kernel
theorem dX8_schedule_32 : decode cX8_schedule 32 = .ok (.aload 4, 2) := by decide +kernel
theorem dX8_schedule_34 : decode cX8_schedule 34 = .ok (.iload_n 2, 1) := by decide +kernel
theorem dX8_schedule_35 : decode cX8_schedule 35 = .ok (.iload_n 3, 1) := by decide +kernel
theorem dX8_schedule_36 : decode cX8_schedule 36 = .ok (.invokevirtual 165, 3) := by decide +kernel
theorem dX8_schedule_39 : decode cX8_schedule 39 = .ok (.goto 4, 3) := by decide +kernel
theorem dX8_schedule_42 : decode cX8_schedule 42 = .ok (.iconst (-1), 1) := by decide +kernel
theorem dX8_schedule_43 : decode cX8_schedule 43 = .ok (.ireturn, 1) := by decide +kernel
theorem dX8_more_0 : decode cX8_more 0 = .ok (.aload_n 0, 1) := by decide +kernel
theorem dX8_more_1 : decode cX8_more 1 = .ok (.getfield 79, 3) := by decide +kernel
theorem dX8_more_4 : decode cX8_more 4 = .ok (.ifCond .ne 5, 3) := by decide +kernel
theorem dX8_more_7 : decode cX8_more 7 = .ok (.iconst (-1), 1) := by decide +kernel
theorem dX8_more_8 : decode cX8_more 8 = .ok (.ireturn, 1) := by decide +kernel
theorem dX8_more_9 : decode cX8_more 9 = .ok (.aload_n 0, 1) := by decide +kernel
theorem dX8_more_10 : decode cX8_more 10 = .ok (.iconst 1, 1) := by decide +kernel
theorem dX8_more_11 : decode cX8_more 11 = .ok (.invokevirtual 149, 3) := by decide +kernel
theorem dX8_more_14 : decode cX8_more 14 = .ok (.astore_n 2, 1) := by decide +kernel
theorem dX8_more_15 : decode cX8_more 15 = .ok (.aload_n 0, 1) := by decide +kernel
theorem dX8_more_16 : decode cX8_more 16 = .ok (.iconst 0, 1) := by decide +kernel
theorem dX8_more_17 : decode cX8_more 17 = .ok (.invokevirtual 149, 3) := by decide +kernel
theorem dX8_more_20 : decode cX8_more 20 = .ok (.astore_n 3, 1) := by decide +kernel
theorem dX8_more_21 : decode cX8_more 21 = .ok (.aload_n 2, 1) := by decide +kernel
theorem dX8_more_22 : decode cX8_more 22 = .ok (.getfield 153, 3) := by decide +kernel
theorem dX8_more_25 : decode cX8_more 25 = .ok (.ifCond .ne 10, 3) := by decide +kernel
theorem dX8_more_28 : decode cX8_more 28 = .ok (.aload_n 3, 1) := by decide +kernel
theorem dX8_more_29 : decode cX8_more 29 = .ok (.getfield 153, 3) := by decide +kernel
theorem dX8_more_32 : decode cX8_more 32 = .ok (.ifCond .eq 6, 3) := by decide +kernel
theorem dX8_more_35 : decode cX8_more 35 = .ok (.bipush (-2), 2) := by decide +kernel
theorem dX8_more_37 : decode cX8_more 37 = .ok (.ireturn, 1) := by decide +kernel
theorem dX8_more_38 : decode cX8_more 38 = .ok (.aload_n 2, 1) := by decide +kernel
theorem dX8_more_39 : decode cX8_more 39 = .ok (.aload_n 3, 1) := by decide +kernel
theorem dX8_more_40 : decode cX8_more 40 = .ok (.iload_n 1, 1) := by decide +kernel
theorem dX8_more_41 : decode cX8_more 41 = .ok (.invokevirtual 168, 3) := by decide +kernel
theorem dX8_more_44 : decode cX8_more 44 = .ok (.ireturn, 1) := by decide +kernel
theorem dX8_race_0 : decode cX8_race 0 = .ok (.aload_n 0, 1) := by decide +kernel
theorem dX8_race_1 : decode cX8_race 1 = .ok (.getfield 79, 3) := by decide +kernel
theorem dX8_race_4 : decode cX8_race 4 = .ok (.ifCond .ne 5, 3) := by decide +kernel
theorem dX8_race_7 : decode cX8_race 7 = .ok (.iconst (-1), 1) := by decide +kernel
theorem dX8_race_8 : decode cX8_race 8 = .ok (.ireturn, 1) := by decide +kernel
theorem dX8_race_9 : decode cX8_race 9 = .ok (.aload_n 0, 1) := by decide +kernel
theorem dX8_race_10 : decode cX8_race 10 = .ok (.invokevirtual 172, 3) := by decide +kernel
theorem dX8_race_13 : decode cX8_race 13 = .ok (.aload_n 0, 1) := by decide +kernel
theorem dX8_race_14 : decode cX8_race 14 = .ok (.getfield 51, 3) := by decide +kernel
theorem dX8_race_17 : decode cX8_race 17 = .ok (.getfield 175, 3) := by decide +kernel
theorem dX8_race_20 : decode cX8_race 20 = .ok (.ireturn, 1) := by decide +kernel
theorem dX8_racer_0 : decode cX8_racer 0 = .ok (.aload_n 0, 1) := by decide +kernel
theorem dX8_racer_1 : decode cX8_racer 1 = .ok (.getfield 79, 3) := by decide +kernel
theorem dX8_racer_4 : decode cX8_racer 4 = .ok (.ifCond .ne 5, 3) := by decide +kernel
theorem dX8_racer_7 : decode cX8_racer 7 = .ok (.iconst (-1), 1) := by decide +kernel
theorem dX8_racer_8 : decode cX8_racer 8 = .ok (.ireturn, 1) := by decide +kernel
theorem dX8_racer_9 : decode cX8_racer 9 = .ok (.aload_n 0, 1) := by decide +kernel
theorem dX8_racer_10 : decode cX8_racer 10 = .ok (.invokevirtual 172, 3) := by decide +kernel
theorem dX8_racer_13 : decode cX8_racer 13 = .ok (.aload_n 0, 1) := by decide +kernel
theorem dX8_racer_14 : decode cX8_racer 14 = .ok (.getfield 51, 3) := by decide +kernel
theorem dX8_racer_17 : decode cX8_racer 17 = .ok (.iload_n 1, 1) := by decide +kernel
theorem dX8_racer_18 : decode cX8_racer 18 = .ok (.invokevirtual 178, 3) := by decide +kernel
theorem dX8_racer_21 : decode cX8_racer 21 = .ok (.ireturn, 1) := by decide +kernel
theorem dX8_cure_0 : decode cX8_cure 0 = .ok (.aload_n 0, 1) := by decide +kernel
theorem dX8_cure_1 : decode cX8_cure 1 = .ok (.getfield 79, 3) := by decide +kernel
theorem dX8_cure_4 : decode cX8_cure 4 = .ok (.ifCond .eq 12, 3) := by decide +kernel
theorem dX8_cure_7 : decode cX8_cure 7 = .ok (.iload_n 1, 1) := by decide +kernel
theorem dX8_cure_8 : decode cX8_cure 8 = .ok (.ifCond .lt 8, 3) := by decide +kernel
theorem dX8_cure_11 : decode cX8_cure 11 = .ok (.iload_n 1, 1) := by decide +kernel
theorem dX8_cure_12 : decode cX8_cure 12 = .ok (.iconst 2, 1) := by decide +kernel
theorem dX8_cure_13 : decode cX8_cure 13 = .ok (.if_icmp .le 5, 3) := by decide +kernel
theorem dX8_cure_16 : decode cX8_cure 16 = .ok (.iconst (-1), 1) := by decide +kernel
theorem dX8_cure_17 : decode cX8_cure 17 = .ok (.ireturn, 1) := by decide +kernel
theorem dX8_cure_18 : decode cX8_cure 18 = .ok (.aload_n 0, 1) := by decide +kernel
theorem dX8_cure_19 : decode cX8_cure 19 = .ok (.iconst 0, 1) := by decide +kernel
theorem dX8_cure_20 : decode cX8_cure 20 = .ok (.invokevirtual 149, 3) := by decide +kernel
theorem dX8_cure_23 : decode cX8_cure 23 = .ok (.astore_n 2, 1) := by decide +kernel
theorem dX8_cure_24 : decode cX8_cure 24 = .ok (.aload_n 0, 1) := by decide +kernel
theorem dX8_cure_25 : decode cX8_cure 25 = .ok (.getfield 58, 3) := by decide +kernel
theorem dX8_cure_28 : decode cX8_cure 28 = .ok (.aload_n 0, 1) := by decide +kernel
theorem dX8_cure_29 : decode cX8_cure 29 = .ok (.getfield 27, 3) := by decide +kernel
theorem dX8_cure_32 : decode cX8_cure 32 = .ok (.aload_n 2, 1) := by decide +kernel
theorem dX8_cure_33 : decode cX8_cure 33 = .ok (.aload_n 0, 1) := by decide +kernel
theorem dX8_cure_34 : decode cX8_cure 34 = .ok (.invokevirtual 181, 3) := by decide +kernel
theorem dX8_cure_37 : decode cX8_cure 37 = .ok (.iload_n 1, 1) := by decide +kernel
theorem dX8_cure_38 : decode cX8_cure 38 = .ok (.invokevirtual 189, 3) := by decide +kernel
theorem dX8_cure_41 : decode cX8_cure 41 = .ok (.ireturn, 1) := by decide +kernel
set_option maxRecDepth 20000 in
theorem ggX8_cured_X0_toldPlace : GoodIn wsX8_cured wsX0_toldPlace := goodIn_r _ [6, 7, 8, 21, 22, 23, 24, 25, 26] (by decide +kernel) (by decide +kernel)
set_option maxRecDepth 20000 in
theorem gX8_cured_X0_toldPlace : GoodIn wsX8_cured (wsV RX8 193 RX0 yX0_toldPlace wsX0_toldPlace) := goodIn_app (goodIn_of _ (by decide +kernel)) ggX8_cured_X0_toldPlace
theorem dX8_cured_0 : decode cX8_cured 0 = .ok (.aload_n 0, 1) := by decide +kernel
theorem dX8_cured_1 : decode cX8_cured 1 = .ok (.getfield 58, 3) := by decide +kernel
theorem dX8_cured_4 : decode cX8_cured 4 = .ok (.iload_n 1, 1) := by decide +kernel
theorem dX8_cured_5 : decode cX8_cured 5 = .ok (.invokevirtual 193, 3) := by decide +kernel
theorem dX8_cured_8 : decode cX8_cured 8 = .ok (.ireturn, 1) := by decide +kernel
theorem dX8_count_0 : decode cX8_count 0 = .ok (.iload_n 1, 1) := by decide +kernel
theorem dX8_count_1 : decode cX8_count 1 = .ok (.ifCond .lt 9, 3) := by decide +kernel
theorem dX8_count_4 : decode cX8_count 4 = .ok (.iload_n 1, 1) := by decide +kernel
theorem dX8_count_5 : decode cX8_count 5 = .ok (.bipush 9, 2) := by decide +kernel
theorem dX8_count_7 : decode cX8_count 7 = .ok (.if_icmp .le 5, 3) := by decide +kernel
theorem dX8_count_10 : decode cX8_count 10 = .ok (.iconst (-1), 1) := by decide +kernel
theorem dX8_count_11 : decode cX8_count 11 = .ok (.ireturn, 1) := by decide +kernel
theorem dX8_count_12 : decode cX8_count 12 = .ok (.iload_n 1, 1) := by decide +kernel
theorem dX8_count_13 : decode cX8_count 13 = .ok (.bipush 9, 2) := by decide +kernel
theorem dX8_count_15 : decode cX8_count 15 = .ok (.if_icmp .ne 8, 3) := by decide +kernel
theorem dX8_count_18 : decode cX8_count 18 = .ok (.aload_n 0, 1) := by decide +kernel
theorem dX8_count_19 : decode cX8_count 19 = .ok (.getfield 62, 3) := by decide +kernel
theorem dX8_count_22 : decode cX8_count 22 = .ok (.ireturn, 1) := by decide +kernel
theorem dX8_count_23 : decode cX8_count 23 = .ok (.aload_n 0, 1) := by decide +kernel
theorem dX8_count_24 : decode cX8_count 24 = .ok (.getfield 79, 3) := by decide +kernel
theorem dX8_count_27 : decode cX8_count 27 = .ok (.ifCond .eq 11, 3) := by decide +kernel
theorem dX8_count_30 : decode cX8_count 30 = .ok (.aload_n 0, 1) := by decide +kernel
theorem dX8_count_31 : decode cX8_count 31 = .ok (.iload_n 1, 1) := by decide +kernel
theorem dX8_count_32 : decode cX8_count 32 = .ok (.invokevirtual 196, 3) := by decide +kernel
theorem dX8_count_35 : decode cX8_count 35 = .ok (.goto 4, 3) := by decide +kernel
theorem dX8_count_38 : decode cX8_count 38 = .ok (.iconst 0, 1) := by decide +kernel
theorem dX8_count_39 : decode cX8_count 39 = .ok (.ireturn, 1) := by decide +kernel
theorem dX9_init_0 : decode cX9_init 0 = .ok (.aload_n 0, 1) := by decide +kernel
theorem dX9_init_1 : decode cX9_init 1 = .ok (.invokespecial 1, 3) := by decide +kernel
theorem dX9_init_4 : decode cX9_init 4 = .ok (.aload_n 0, 1) := by decide +kernel
theorem dX9_init_5 : decode cX9_init 5 = .ok (.iconst 3, 1) := by decide +kernel
theorem dX9_init_6 : decode cX9_init 6 = .ok (.newarray .int, 2) := by decide +kernel
theorem dX9_init_8 : decode cX9_init 8 = .ok (.putfield 7, 3) := by decide +kernel
theorem dX9_init_11 : decode cX9_init 11 = .ok (.aload_n 0, 1) := by decide +kernel
theorem dX9_init_12 : decode cX9_init 12 = .ok (.bipush 9, 2) := by decide +kernel
theorem dX9_init_14 : decode cX9_init 14 = .ok (.newarray .int, 2) := by decide +kernel
theorem dX9_init_16 : decode cX9_init 16 = .ok (.putfield 13, 3) := by decide +kernel
theorem dX9_init_19 : decode cX9_init 19 = .ok (.aload_n 0, 1) := by decide +kernel
theorem dX9_init_20 : decode cX9_init 20 = .ok (.bipush 108, 2) := by decide +kernel
theorem dX9_init_22 : decode cX9_init 22 = .ok (.newarray .int, 2) := by decide +kernel
theorem dX9_init_24 : decode cX9_init 24 = .ok (.putfield 16, 3) := by decide +kernel
theorem dX9_init_27 : decode cX9_init 27 = .ok (.aload_n 0, 1) := by decide +kernel
theorem dX9_init_28 : decode cX9_init 28 = .ok (.bipush 108, 2) := by decide +kernel
theorem dX9_init_30 : decode cX9_init 30 = .ok (.newarray .int, 2) := by decide +kernel
theorem dX9_init_32 : decode cX9_init 32 = .ok (.putfield 19, 3) := by decide +kernel
theorem dX9_init_35 : decode cX9_init 35 = .ok (.aload_n 0, 1) := by decide +kernel
theorem dX9_init_36 : decode cX9_init 36 = .ok (.bipush 108, 2) := by decide +kernel
theorem dX9_init_38 : decode cX9_init 38 = .ok (.newarray .int, 2) := by decide +kernel
theorem dX9_init_40 : decode cX9_init 40 = .ok (.putfield 22, 3) := by decide +kernel
theorem dX9_init_43 : decode cX9_init 43 = .ok (.aload_n 0, 1) := by decide +kernel
theorem dX9_init_44 : decode cX9_init 44 = .ok (.bipush 108, 2) := by decide +kernel
theorem dX9_init_46 : decode cX9_init 46 = .ok (.newarray .int, 2) := by decide +kernel
theorem dX9_init_48 : decode cX9_init 48 = .ok (.putfield 25, 3) := by decide +kernel
theorem dX9_init_51 : decode cX9_init 51 = .ok (.aload_n 0, 1) := by decide +kernel
theorem dX9_init_52 : decode cX9_init 52 = .ok (.bipush 108, 2) := by decide +kernel
theorem dX9_init_54 : decode cX9_init 54 = .ok (.newarray .int, 2) := by decide +kernel
theorem dX9_init_56 : decode cX9_init 56 = .ok (.putfield 28, 3) := by decide +kernel
theorem dX9_init_59 : decode cX9_init 59 = .ok (.aload_n 0, 1) := by decide +kernel
theorem dX9_init_60 : decode cX9_init 60 = .ok (.bipush 108, 2) := by decide +kernel
theorem dX9_init_62 : decode cX9_init 62 = .ok (.newarray .int, 2) := by decide +kernel
theorem dX9_init_64 : decode cX9_init 64 = .ok (.putfield 31, 3) := by decide +kernel
theorem dX9_init_67 : decode cX9_init 67 = .ok (.aload_n 0, 1) := by decide +kernel
theorem dX9_init_68 : decode cX9_init 68 = .ok (.bipush 108, 2) := by decide +kernel
theorem dX9_init_70 : decode cX9_init 70 = .ok (.newarray .int, 2) := by decide +kernel
theorem dX9_init_72 : decode cX9_init 72 = .ok (.putfield 34, 3) := by decide +kernel
theorem dX9_init_75 : decode cX9_init 75 = .ok (.aload_n 0, 1) := by decide +kernel
theorem dX9_init_76 : decode cX9_init 76 = .ok (.bipush 108, 2) := by decide +kernel
theorem dX9_init_78 : decode cX9_init 78 = .ok (.newarray .int, 2) := by decide +kernel
theorem dX9_init_80 : decode cX9_init 80 = .ok (.putfield 37, 3) := by decide +kernel
theorem dX9_init_83 : decode cX9_init 83 = .ok (.aload_n 0, 1) := by decide +kernel
theorem dX9_init_84 : decode cX9_init 84 = .ok (.bipush 12, 2) := by decide +kernel
theorem dX9_init_86 : decode cX9_init 86 = .ok (.newarray .int, 2) := by decide +kernel
theorem dX9_init_88 : decode cX9_init 88 = .ok (.putfield 40, 3) := by decide +kernel
theorem dX9_init_91 : decode cX9_init 91 = .ok (.aload_n 0, 1) := by decide +kernel
theorem dX9_init_92 : decode cX9_init 92 = .ok (.ldc 43, 2) := by decide +kernel
theorem dX9_init_94 : decode cX9_init 94 = .ok (.newarray .int, 2) := by decide +kernel
theorem dX9_init_96 : decode cX9_init 96 = .ok (.putfield 44, 3) := by decide +kernel
theorem dX9_init_99 : decode cX9_init 99 = .ok (.aload_n 0, 1) := by decide +kernel
theorem dX9_init_100 : decode cX9_init 100 = .ok (.sipush 9000, 3) := by decide +kernel
theorem dX9_init_103 : decode cX9_init 103 = .ok (.newarray .int, 2) := by decide +kernel
theorem dX9_init_105 : decode cX9_init 105 = .ok (.putfield 47, 3) := by decide +kernel
theorem dX9_init_108 : decode cX9_init 108 = .ok (.aload_n 0, 1) := by decide +kernel
theorem dX9_init_109 : decode cX9_init 109 = .ok (.sipush 9000, 3) := by decide +kernel
theorem dX9_init_112 : decode cX9_init 112 = .ok (.newarray .int, 2) := by decide +kernel
theorem dX9_init_114 : decode cX9_init 114 = .ok (.putfield 50, 3) := by decide +kernel
theorem dX9_init_117 : decode cX9_init 117 = .ok (.aload_n 0, 1) := by decide +kernel
theorem dX9_init_118 : decode cX9_init 118 = .ok (.sipush 9000, 3) := by decide +kernel
theorem dX9_init_121 : decode cX9_init 121 = .ok (.newarray .int, 2) := by decide +kernel
theorem dX9_init_123 : decode cX9_init 123 = .ok (.putfield 53, 3) := by decide +kernel
theorem dX9_init_126 : decode cX9_init 126 = .ok (.aload_n 0, 1) := by decide +kernel
theorem dX9_init_127 : decode cX9_init 127 = .ok (.sipush 12288, 3) := by decide +kernel
theorem dX9_init_130 : decode cX9_init 130 = .ok (.newarray .int, 2) := by decide +kernel
theorem dX9_init_132 : decode cX9_init 132 = .ok (.putfield 56, 3) := by decide +kernel
theorem dX9_init_135 : decode cX9_init 135 = .ok (.aload_n 0, 1) := by decide +kernel
theorem dX9_init_136 : decode cX9_init 136 = .ok (.iconst 3, 1) := by decide +kernel
theorem dX9_init_137 : decode cX9_init 137 = .ok (.newarray .int, 2) := by decide +kernel
theorem dX9_init_139 : decode cX9_init 139 = .ok (.putfield 59, 3) := by decide +kernel
theorem dX9_init_142 : decode cX9_init 142 = .ok (.aload_n 0, 1) := by decide +kernel
theorem dX9_init_143 : decode cX9_init 143 = .ok (.iconst 3, 1) := by decide +kernel
theorem dX9_init_144 : decode cX9_init 144 = .ok (.newarray .boolean, 2) := by decide +kernel
theorem dX9_init_146 : decode cX9_init 146 = .ok (.putfield 62, 3) := by decide +kernel
theorem dX9_init_149 : decode cX9_init 149 = .ok (.aload_n 0, 1) := by decide +kernel
theorem dX9_init_150 : decode cX9_init 150 = .ok (.iconst 3, 1) := by decide +kernel
theorem dX9_init_151 : decode cX9_init 151 = .ok (.newarray .boolean, 2) := by decide +kernel
theorem dX9_init_153 : decode cX9_init 153 = .ok (.putfield 66, 3) := by decide +kernel
theorem dX9_init_156 : decode cX9_init 156 = .ok (.aload_n 0, 1) := by decide +kernel
theorem dX9_init_157 : decode cX9_init 157 = .ok (.sipush 9000, 3) := by decide +kernel
theorem dX9_init_160 : decode cX9_init 160 = .ok (.newarray .int, 2) := by decide +kernel
theorem dX9_init_162 : decode cX9_init 162 = .ok (.putfield 69, 3) := by decide +kernel
theorem dX9_init_165 : decode cX9_init 165 = .ok (.aload_n 0, 1) := by decide +kernel
theorem dX9_init_166 : decode cX9_init 166 = .ok (.iconst 3, 1) := by decide +kernel
theorem dX9_init_167 : decode cX9_init 167 = .ok (.newarray .int, 2) := by decide +kernel
theorem dX9_init_169 : decode cX9_init 169 = .ok (.putfield 72, 3) := by decide +kernel
theorem dX9_init_172 : decode cX9_init 172 = .ok (.aload_n 0, 1) := by decide +kernel
theorem dX9_init_173 : decode cX9_init 173 = .ok (.bipush 58, 2) := by decide +kernel
theorem dX9_init_175 : decode cX9_init 175 = .ok (.newarray .int, 2) := by decide +kernel
theorem dX9_init_177 : decode cX9_init 177 = .ok (.putfield 75, 3) := by decide +kernel
theorem dX9_init_180 : decode cX9_init 180 = .ok (.aload_n 0, 1) := by decide +kernel
theorem dX9_init_181 : decode cX9_init 181 = .ok (.bipush 58, 2) := by decide +kernel
theorem dX9_init_183 : decode cX9_init 183 = .ok (.newarray .int, 2) := by decide +kernel
theorem dX9_init_185 : decode cX9_init 185 = .ok (.putfield 78, 3) := by decide +kernel
theorem dX9_init_188 : decode cX9_init 188 = .ok (.aload_n 0, 1) := by decide +kernel
theorem dX9_init_189 : decode cX9_init 189 = .ok (.sipush 2900, 3) := by decide +kernel
theorem dX9_init_192 : decode cX9_init 192 = .ok (.newarray .int, 2) := by decide +kernel
theorem dX9_init_194 : decode cX9_init 194 = .ok (.putfield 81, 3) := by decide +kernel
theorem dX9_init_197 : decode cX9_init 197 = .ok (.aload_n 0, 1) := by decide +kernel
theorem dX9_init_198 : decode cX9_init 198 = .ok (.iconst (-1), 1) := by decide +kernel
theorem dX9_init_199 : decode cX9_init 199 = .ok (.putfield 84, 3) := by decide +kernel
theorem dX9_init_202 : decode cX9_init 202 = .ok (.aload_n 0, 1) := by decide +kernel
theorem dX9_init_203 : decode cX9_init 203 = .ok (.sipush 4000, 3) := by decide +kernel
theorem dX9_init_206 : decode cX9_init 206 = .ok (.newarray .byte, 2) := by decide +kernel
theorem dX9_init_208 : decode cX9_init 208 = .ok (.putfield 88, 3) := by decide +kernel
theorem dX9_init_211 : decode cX9_init 211 = .ok (.aload_n 0, 1) := by decide +kernel
theorem dX9_init_212 : decode cX9_init 212 = .ok (.iconst (-1), 1) := by decide +kernel
theorem dX9_init_213 : decode cX9_init 213 = .ok (.putfield 92, 3) := by decide +kernel
theorem dX9_init_216 : decode cX9_init 216 = .ok (.aload_n 0, 1) := by decide +kernel
theorem dX9_init_217 : decode cX9_init 217 = .ok (.bipush 12, 2) := by decide +kernel
theorem dX9_init_219 : decode cX9_init 219 = .ok (.newarray .int, 2) := by decide +kernel
theorem dX9_init_221 : decode cX9_init 221 = .ok (.putfield 95, 3) := by decide +kernel
theorem dX9_init_224 : decode cX9_init 224 = .ok (.aload_n 0, 1) := by decide +kernel
theorem dX9_init_225 : decode cX9_init 225 = .ok (.iconst (-1), 1) := by decide +kernel
theorem dX9_init_226 : decode cX9_init 226 = .ok (.putfield 98, 3) := by decide +kernel
theorem dX9_init_229 : decode cX9_init 229 = .ok (.aload_n 0, 1) := by decide +kernel
theorem dX9_init_230 : decode cX9_init 230 = .ok (.bipush 64, 2) := by decide +kernel
theorem dX9_init_232 : decode cX9_init 232 = .ok (.newarray .int, 2) := by decide +kernel
theorem dX9_init_234 : decode cX9_init 234 = .ok (.putfield 101, 3) := by decide +kernel
theorem dX9_init_237 : decode cX9_init 237 = .ok (.aload_n 0, 1) := by decide +kernel
theorem dX9_init_238 : decode cX9_init 238 = .ok (.iconst (-1), 1) := by decide +kernel
theorem dX9_init_239 : decode cX9_init 239 = .ok (.putfield 104, 3) := by decide +kernel
theorem dX9_init_242 : decode cX9_init 242 = .ok (.aload_n 0, 1) := by decide +kernel
theorem dX9_init_243 : decode cX9_init 243 = .ok (.iconst 2, 1) := by decide +kernel
theorem dX9_init_244 : decode cX9_init 244 = .ok (.newarray .int, 2) := by decide +kernel
theorem dX9_init_246 : decode cX9_init 246 = .ok (.putfield 107, 3) := by decide +kernel
theorem dX9_init_249 : decode cX9_init 249 = .ok (.aload_n 0, 1) := by decide +kernel
theorem dX9_init_250 : decode cX9_init 250 = .ok (.bipush 16, 2) := by decide +kernel
theorem dX9_init_252 : decode cX9_init 252 = .ok (.newarray .int, 2) := by decide +kernel
theorem dX9_init_254 : decode cX9_init 254 = .ok (.putfield 110, 3) := by decide +kernel
theorem dX9_init_257 : decode cX9_init 257 = .ok (.aload_n 0, 1) := by decide +kernel
theorem dX9_init_258 : decode cX9_init 258 = .ok (.bipush 13, 2) := by decide +kernel
theorem dX9_init_260 : decode cX9_init 260 = .ok (.newarray .int, 2) := by decide +kernel
theorem dX9_init_262 : decode cX9_init 262 = .ok (.putfield 113, 3) := by decide +kernel
theorem dX9_init_265 : decode cX9_init 265 = .ok (.return_, 1) := by decide +kernel
set_option maxRecDepth 20000 in
theorem ggX9_feed_X9_byteRow : GoodIn wsX9_feed wsX9_byteRow := goodIn_r _ [6, 7, 1, 8, 9, 10, 11, 12, 13, 14, 15, 16, 17, 18, 19, 20, 21, 22, 23, 24, 25, 26, 27, 28, 29, 30, 31, 32, 33, 34, 35, 36, 37, 38, 39, 40, 41, 42, 43, 44, 45, 46, 47, 48, 49, 50, 51, 52, 53, 54, 55, 56, 57, 58, 59] (by decide +kernel) (by decide +kernel)
set_option maxRecDepth 20000 in
theorem gX9_feed_X9_byteRow : GoodIn wsX9_feed (wsV RX9 119 RX9 yX9_byteRow wsX9_byteRow) := goodIn_app (goodIn_of _ (by decide +kernel)) ggX9_feed_X9_byteRow
theorem dX9_feed_0 : decode cX9_feed 0 = .ok (.aload_n 0, 1) := by decide +kernel
theorem dX9_feed_1 : decode cX9_feed 1 = .ok (.getfield 116, 3) := by decide +kernel
theorem dX9_feed_4 : decode cX9_feed 4 = .ok (.bipush 20, 2) := by decide +kernel
theorem dX9_feed_6 : decode cX9_feed 6 = .ok (.iadd, 1) := by decide +kernel
theorem dX9_feed_7 : decode cX9_feed 7 = .ok (.sipush 4000, 3) := by decide +kernel
theorem dX9_feed_10 : decode cX9_feed 10 = .ok (.if_icmp .le 5, 3) := by decide +kernel
theorem dX9_feed_13 : decode cX9_feed 13 = .ok (.iconst (-1), 1) := by decide +kernel
theorem dX9_feed_14 : decode cX9_feed 14 = .ok (.ireturn, 1) := by decide +kernel
theorem dX9_feed_15 : decode cX9_feed 15 = .ok (.aload_n 0, 1) := by decide +kernel
theorem dX9_feed_16 : decode cX9_feed 16 = .ok (.iload_n 1, 1) := by decide +kernel
theorem dX9_feed_17 : decode cX9_feed 17 = .ok (.invokevirtual 119, 3) := by decide +kernel
theorem dX9_feed_20 : decode cX9_feed 20 = .ok (.aload_n 0, 1) := by decide +kernel
theorem dX9_feed_21 : decode cX9_feed 21 = .ok (.iload_n 2, 1) := by decide +kernel
theorem dX9_feed_22 : decode cX9_feed 22 = .ok (.invokevirtual 119, 3) := by decide +kernel
theorem dX9_feed_25 : decode cX9_feed 25 = .ok (.aload_n 0, 1) := by decide +kernel
theorem dX9_feed_26 : decode cX9_feed 26 = .ok (.iload_n 3, 1) := by decide +kernel
theorem dX9_feed_27 : decode cX9_feed 27 = .ok (.invokevirtual 119, 3) := by decide +kernel
theorem dX9_feed_30 : decode cX9_feed 30 = .ok (.aload_n 0, 1) := by decide +kernel
theorem dX9_feed_31 : decode cX9_feed 31 = .ok (.iload 4, 2) := by decide +kernel
theorem dX9_feed_33 : decode cX9_feed 33 = .ok (.invokevirtual 119, 3) := by decide +kernel
theorem dX9_feed_36 : decode cX9_feed 36 = .ok (.aload_n 0, 1) := by decide +kernel
theorem dX9_feed_37 : decode cX9_feed 37 = .ok (.iload 5, 2) := by decide +kernel
theorem dX9_feed_39 : decode cX9_feed 39 = .ok (.invokevirtual 119, 3) := by decide +kernel
theorem dX9_feed_42 : decode cX9_feed 42 = .ok (.aload_n 0, 1) := by decide +kernel
theorem dX9_feed_43 : decode cX9_feed 43 = .ok (.getfield 116, 3) := by decide +kernel
theorem dX9_feed_46 : decode cX9_feed 46 = .ok (.ireturn, 1) := by decide +kernel
theorem dX9_byteRow_0 : decode cX9_byteRow 0 = .ok (.iconst 3, 1) := by decide +kernel
theorem dX9_byteRow_1 : decode cX9_byteRow 1 = .ok (.istore_n 2, 1) := by decide +kernel
theorem dX9_byteRow_2 : decode cX9_byteRow 2 = .ok (.iload_n 2, 1) := by decide +kernel
theorem dX9_byteRow_3 : decode cX9_byteRow 3 = .ok (.ifCond .lt 35, 3) := by decide +kernel
theorem dX9_byteRow_6 : decode cX9_byteRow 6 = .ok (.aload_n 0, 1) := by decide +kernel
theorem dX9_byteRow_7 : decode cX9_byteRow 7 = .ok (.getfield 88, 3) := by decide +kernel
theorem dX9_byteRow_10 : decode cX9_byteRow 10 = .ok (.aload_n 0, 1) := by decide +kernel
theorem dX9_byteRow_11 : decode cX9_byteRow 11 = .ok (.getfield 116, 3) := by decide +kernel
theorem dX9_byteRow_14 : decode cX9_byteRow 14 = .ok (.iload_n 1, 1) := by decide +kernel
theorem dX9_byteRow_15 : decode cX9_byteRow 15 = .ok (.bipush 8, 2) := by decide +kernel
theorem dX9_byteRow_17 : decode cX9_byteRow 17 = .ok (.iload_n 2, 1) := by decide +kernel
theorem dX9_byteRow_18 : decode cX9_byteRow 18 = .ok (.imul, 1) := by decide +kernel
theorem dX9_byteRow_19 : decode cX9_byteRow 19 = .ok (.iushr, 1) := by decide +kernel
theorem dX9_byteRow_20 : decode cX9_byteRow 20 = .ok (.i2b, 1) := by decide +kernel
theorem dX9_byteRow_21 : decode cX9_byteRow 21 = .ok (.bastore, 1) := by decide +kernel
theorem dX9_byteRow_22 : decode cX9_byteRow 22 = .ok (.aload_n 0, 1) := by decide +kernel
theorem dX9_byteRow_23 : decode cX9_byteRow 23 = .ok (.dup, 1) := by decide +kernel
theorem dX9_byteRow_24 : decode cX9_byteRow 24 = .ok (.getfield 116, 3) := by decide +kernel
theorem dX9_byteRow_27 : decode cX9_byteRow 27 = .ok (.iconst 1, 1) := by decide +kernel
theorem dX9_byteRow_28 : decode cX9_byteRow 28 = .ok (.iadd, 1) := by decide +kernel
theorem dX9_byteRow_29 : decode cX9_byteRow 29 = .ok (.putfield 116, 3) := by decide +kernel
theorem dX9_byteRow_32 : decode cX9_byteRow 32 = .ok (.iinc 2 (-1), 3) := by decide +kernel
theorem dX9_byteRow_35 : decode cX9_byteRow 35 = .ok (.goto (-33), 3) := by decide +kernel
theorem dX9_byteRow_38 : decode cX9_byteRow 38 = .ok (.return_, 1) := by decide +kernel
theorem dX9_back_0 : decode cX9_back 0 = .ok (.iload_n 1, 1) := by decide +kernel
theorem dX9_back_1 : decode cX9_back 1 = .ok (.ifCond .lt 11, 3) := by decide +kernel
theorem dX9_back_4 : decode cX9_back 4 = .ok (.iload_n 1, 1) := by decide +kernel
theorem dX9_back_5 : decode cX9_back 5 = .ok (.aload_n 0, 1) := by decide +kernel
theorem dX9_back_6 : decode cX9_back 6 = .ok (.getfield 116, 3) := by decide +kernel
theorem dX9_back_9 : decode cX9_back 9 = .ok (.if_icmp .le 5, 3) := by decide +kernel
theorem dX9_back_12 : decode cX9_back 12 = .ok (.iconst (-1), 1) := by decide +kernel
theorem dX9_back_13 : decode cX9_back 13 = .ok (.ireturn, 1) := by decide +kernel
theorem dX9_back_14 : decode cX9_back 14 = .ok (.aload_n 0, 1) := by decide +kernel
theorem dX9_back_15 : decode cX9_back 15 = .ok (.dup, 1) := by decide +kernel
theorem dX9_back_16 : decode cX9_back 16 = .ok (.getfield 116, 3) := by decide +kernel
theorem dX9_back_19 : decode cX9_back 19 = .ok (.iload_n 1, 1) := by decide +kernel
theorem dX9_back_20 : decode cX9_back 20 = .ok (.isub, 1) := by decide +kernel
theorem dX9_back_21 : decode cX9_back 21 = .ok (.putfield 116, 3) := by decide +kernel
theorem dX9_back_24 : decode cX9_back 24 = .ok (.aload_n 0, 1) := by decide +kernel
theorem dX9_back_25 : decode cX9_back 25 = .ok (.getfield 116, 3) := by decide +kernel
theorem dX9_back_28 : decode cX9_back 28 = .ok (.ireturn, 1) := by decide +kernel
theorem dX9_seen_0 : decode cX9_seen 0 = .ok (.iload_n 1, 1) := by decide +kernel
theorem dX9_seen_1 : decode cX9_seen 1 = .ok (.aload_n 0, 1) := by decide +kernel
theorem dX9_seen_2 : decode cX9_seen 2 = .ok (.getfield 116, 3) := by decide +kernel
theorem dX9_seen_5 : decode cX9_seen 5 = .ok (.if_icmp .ge 12, 3) := by decide +kernel
theorem dX9_seen_8 : decode cX9_seen 8 = .ok (.aload_n 0, 1) := by decide +kernel
theorem dX9_seen_9 : decode cX9_seen 9 = .ok (.getfield 88, 3) := by decide +kernel
theorem dX9_seen_12 : decode cX9_seen 12 = .ok (.iload_n 1, 1) := by decide +kernel
theorem dX9_seen_13 : decode cX9_seen 13 = .ok (.baload, 1) := by decide +kernel
theorem dX9_seen_14 : decode cX9_seen 14 = .ok (.goto 4, 3) := by decide +kernel
theorem dX9_seen_17 : decode cX9_seen 17 = .ok (.iconst 0, 1) := by decide +kernel
theorem dX9_seen_18 : decode cX9_seen 18 = .ok (.ireturn, 1) := by decide +kernel
set_option maxRecDepth 20000 in
theorem ggX9_token_X9_seen : GoodIn wsX9_token wsX9_seen := goodIn_r _ [11, 2, 3, 20, 21, 22, 23, 24, 25, 26, 27, 28, 29, 30, 31, 32, 33, 34, 35, 36, 37, 38, 39, 40, 41, 42, 43, 44, 45, 46, 47, 48, 49, 50, 51, 52, 53, 54, 55, 56, 57, 58, 59, 60, 61, 62, 63, 64, 65, 66, 67, 68, 69, 70, 71] (by decide +kernel) (by decide +kernel)
set_option maxRecDepth 20000 in
theorem gX9_token_X9_seen : GoodIn wsX9_token (wsV RX9 123 RX9 yX9_seen wsX9_seen) := goodIn_app (goodIn_of _ (by decide +kernel)) ggX9_token_X9_seen
theorem dX9_token_0 : decode cX9_token 0 = .ok (.aload_n 0, 1) := by decide +kernel
theorem dX9_token_1 : decode cX9_token 1 = .ok (.getfield 127, 3) := by decide +kernel
theorem dX9_token_4 : decode cX9_token 4 = .ok (.istore_n 1, 1) := by decide +kernel
theorem dX9_token_5 : decode cX9_token 5 = .ok (.iload_n 1, 1) := by decide +kernel
theorem dX9_token_6 : decode cX9_token 6 = .ok (.aload_n 0, 1) := by decide +kernel
theorem dX9_token_7 : decode cX9_token 7 = .ok (.getfield 116, 3) := by decide +kernel
theorem dX9_token_10 : decode cX9_token 10 = .ok (.if_icmp .ge 53, 3) := by decide +kernel
theorem dX9_token_13 : decode cX9_token 13 = .ok (.aload_n 0, 1) := by decide +kernel
theorem dX9_token_14 : decode cX9_token 14 = .ok (.getfield 88, 3) := by decide +kernel
theorem dX9_token_17 : decode cX9_token 17 = .ok (.iload_n 1, 1) := by decide +kernel
theorem dX9_token_18 : decode cX9_token 18 = .ok (.baload, 1) := by decide +kernel
theorem dX9_token_19 : decode cX9_token 19 = .ok (.bipush 9, 2) := by decide +kernel
theorem dX9_token_21 : decode cX9_token 21 = .ok (.if_icmp .eq 36, 3) := by decide +kernel
theorem dX9_token_24 : decode cX9_token 24 = .ok (.aload_n 0, 1) := by decide +kernel
theorem dX9_token_25 : decode cX9_token 25 = .ok (.getfield 88, 3) := by decide +kernel
theorem dX9_token_28 : decode cX9_token 28 = .ok (.iload_n 1, 1) := by decide +kernel
theorem dX9_token_29 : decode cX9_token 29 = .ok (.baload, 1) := by decide +kernel
theorem dX9_token_30 : decode cX9_token 30 = .ok (.bipush 10, 2) := by decide +kernel
theorem dX9_token_32 : decode cX9_token 32 = .ok (.if_icmp .eq 25, 3) := by decide +kernel
theorem dX9_token_35 : decode cX9_token 35 = .ok (.aload_n 0, 1) := by decide +kernel
theorem dX9_token_36 : decode cX9_token 36 = .ok (.getfield 88, 3) := by decide +kernel
theorem dX9_token_39 : decode cX9_token 39 = .ok (.iload_n 1, 1) := by decide +kernel
theorem dX9_token_40 : decode cX9_token 40 = .ok (.baload, 1) := by decide +kernel
theorem dX9_token_41 : decode cX9_token 41 = .ok (.bipush 13, 2) := by decide +kernel
theorem dX9_token_43 : decode cX9_token 43 = .ok (.if_icmp .eq 14, 3) := by decide +kernel
theorem dX9_token_46 : decode cX9_token 46 = .ok (.aload_n 0, 1) := by decide +kernel
theorem dX9_token_47 : decode cX9_token 47 = .ok (.getfield 88, 3) := by decide +kernel
theorem dX9_token_50 : decode cX9_token 50 = .ok (.iload_n 1, 1) := by decide +kernel
theorem dX9_token_51 : decode cX9_token 51 = .ok (.baload, 1) := by decide +kernel
theorem dX9_token_52 : decode cX9_token 52 = .ok (.bipush 32, 2) := by decide +kernel
theorem dX9_token_54 : decode cX9_token 54 = .ok (.if_icmp .ne 9, 3) := by decide +kernel
theorem dX9_token_57 : decode cX9_token 57 = .ok (.iinc 1 1, 3) := by decide +kernel
theorem dX9_token_60 : decode cX9_token 60 = .ok (.goto (-55), 3) := by decide +kernel
theorem dX9_token_63 : decode cX9_token 63 = .ok (.aload_n 0, 1) := by decide +kernel
theorem dX9_token_64 : decode cX9_token 64 = .ok (.iload_n 1, 1) := by decide +kernel
theorem dX9_token_65 : decode cX9_token 65 = .ok (.putfield 130, 3) := by decide +kernel
theorem dX9_token_68 : decode cX9_token 68 = .ok (.iload_n 1, 1) := by decide +kernel
theorem dX9_token_69 : decode cX9_token 69 = .ok (.iconst 1, 1) := by decide +kernel
theorem dX9_token_70 : decode cX9_token 70 = .ok (.iadd, 1) := by decide +kernel
theorem dX9_token_71 : decode cX9_token 71 = .ok (.istore_n 2, 1) := by decide +kernel
theorem dX9_token_72 : decode cX9_token 72 = .ok (.aload_n 0, 1) := by decide +kernel
theorem dX9_token_73 : decode cX9_token 73 = .ok (.iload_n 1, 1) := by decide +kernel
theorem dX9_token_74 : decode cX9_token 74 = .ok (.invokevirtual 123, 3) := by decide +kernel
theorem dX9_token_77 : decode cX9_token 77 = .ok (.istore_n 3, 1) := by decide +kernel
theorem dX9_token_78 : decode cX9_token 78 = .ok (.aload_n 0, 1) := by decide +kernel
theorem dX9_token_79 : decode cX9_token 79 = .ok (.lconst 0, 1) := by decide +kernel
theorem dX9_token_80 : decode cX9_token 80 = .ok (.putfield 133, 3) := by decide +kernel
theorem dX9_token_83 : decode cX9_token 83 = .ok (.iload_n 1, 1) := by decide +kernel
theorem dX9_token_84 : decode cX9_token 84 = .ok (.aload_n 0, 1) := by decide +kernel
theorem dX9_token_85 : decode cX9_token 85 = .ok (.getfield 116, 3) := by decide +kernel
theorem dX9_token_88 : decode cX9_token 88 = .ok (.if_icmp .lt 13, 3) := by decide +kernel
theorem dX9_token_91 : decode cX9_token 91 = .ok (.aload_n 0, 1) := by decide +kernel
theorem dX9_token_92 : decode cX9_token 92 = .ok (.iconst 0, 1) := by decide +kernel
theorem dX9_token_93 : decode cX9_token 93 = .ok (.putfield 137, 3) := by decide +kernel
theorem dX9_token_96 : decode cX9_token 96 = .ok (.iload_n 1, 1) := by decide +kernel
theorem dX9_token_97 : decode cX9_token 97 = .ok (.istore_n 2, 1) := by decide +kernel
theorem dX9_token_98 : decode cX9_token 98 = .ok (.goto 168, 3) := by decide +kernel
theorem dX9_token_101 : decode cX9_token 101 = .ok (.aload_n 0, 1) := by decide +kernel
theorem dX9_token_102 : decode cX9_token 102 = .ok (.iload_n 1, 1) := by decide +kernel
theorem dX9_token_103 : decode cX9_token 103 = .ok (.invokevirtual 140, 3) := by decide +kernel
theorem dX9_token_106 : decode cX9_token 106 = .ok (.ifCond .eq 80, 3) := by decide +kernel
theorem dX9_token_109 : decode cX9_token 109 = .ok (.aload_n 0, 1) := by decide +kernel
theorem dX9_token_110 : decode cX9_token 110 = .ok (.iload_n 2, 1) := by decide +kernel
theorem dX9_token_111 : decode cX9_token 111 = .ok (.invokevirtual 140, 3) := by decide +kernel
theorem dX9_token_114 : decode cX9_token 114 = .ok (.ifCond .eq 9, 3) := by decide +kernel
theorem dX9_token_117 : decode cX9_token 117 = .ok (.iinc 2 1, 3) := by decide +kernel
theorem dX9_token_120 : decode cX9_token 120 = .ok (.goto (-11), 3) := by decide +kernel
theorem dX9_token_123 : decode cX9_token 123 = .ok (.aload_n 0, 1) := by decide +kernel
theorem dX9_token_124 : decode cX9_token 124 = .ok (.iload_n 2, 1) := by decide +kernel
theorem dX9_token_125 : decode cX9_token 125 = .ok (.iload_n 1, 1) := by decide +kernel
theorem dX9_token_126 : decode cX9_token 126 = .ok (.isub, 1) := by decide +kernel
theorem dX9_token_127 : decode cX9_token 127 = .ok (.bipush 8, 2) := by decide +kernel
theorem dX9_token_129 : decode cX9_token 129 = .ok (.if_icmp .le 7, 3) := by decide +kernel
theorem dX9_token_132 : decode cX9_token 132 = .ok (.iconst 5, 1) := by decide +kernel
theorem dX9_token_133 : decode cX9_token 133 = .ok (.goto 4, 3) := by decide +kernel
theorem dX9_token_136 : decode cX9_token 136 = .ok (.iconst 1, 1) := by decide +kernel
theorem dX9_token_137 : decode cX9_token 137 = .ok (.putfield 137, 3) := by decide +kernel
theorem dX9_token_140 : decode cX9_token 140 = .ok (.iload_n 1, 1) := by decide +kernel
theorem dX9_token_141 : decode cX9_token 141 = .ok (.istore 4, 2) := by decide +kernel
theorem dX9_token_143 : decode cX9_token 143 = .ok (.iload 4, 2) := by decide +kernel
theorem dX9_token_145 : decode cX9_token 145 = .ok (.iload_n 2, 1) := by decide +kernel
theorem dX9_token_146 : decode cX9_token 146 = .ok (.if_icmp .ge 37, 3) := by decide +kernel
theorem dX9_token_149 : decode cX9_token 149 = .ok (.aload_n 0, 1) := by decide +kernel
theorem dX9_token_150 : decode cX9_token 150 = .ok (.getfield 137, 3) := by decide +kernel
theorem dX9_token_153 : decode cX9_token 153 = .ok (.iconst 1, 1) := by decide +kernel
theorem dX9_token_154 : decode cX9_token 154 = .ok (.if_icmp .ne 29, 3) := by decide +kernel
theorem dX9_token_157 : decode cX9_token 157 = .ok (.aload_n 0, 1) := by decide +kernel
theorem dX9_token_158 : decode cX9_token 158 = .ok (.aload_n 0, 1) := by decide +kernel
theorem dX9_token_159 : decode cX9_token 159 = .ok (.getfield 133, 3) := by decide +kernel
theorem dX9_token_162 : decode cX9_token 162 = .ok (.bipush 8, 2) := by decide +kernel
theorem dX9_token_164 : decode cX9_token 164 = .ok (.lshl, 1) := by decide +kernel
theorem dX9_token_165 : decode cX9_token 165 = .ok (.aload_n 0, 1) := by decide +kernel
theorem dX9_token_166 : decode cX9_token 166 = .ok (.getfield 88, 3) := by decide +kernel
theorem dX9_token_169 : decode cX9_token 169 = .ok (.iload 4, 2) := by decide +kernel
theorem dX9_token_171 : decode cX9_token 171 = .ok (.baload, 1) := by decide +kernel
theorem dX9_token_172 : decode cX9_token 172 = .ok (.i2l, 1) := by decide +kernel
theorem dX9_token_173 : decode cX9_token 173 = .ok (.lor, 1) := by decide +kernel
theorem dX9_token_174 : decode cX9_token 174 = .ok (.putfield 133, 3) := by decide +kernel
theorem dX9_token_177 : decode cX9_token 177 = .ok (.iinc 4 1, 3) := by decide +kernel
theorem dX9_token_180 : decode cX9_token 180 = .ok (.goto (-37), 3) := by decide +kernel
theorem dX9_token_183 : decode cX9_token 183 = .ok (.goto 83, 3) := by decide +kernel
theorem dX9_token_186 : decode cX9_token 186 = .ok (.aload_n 0, 1) := by decide +kernel
theorem dX9_token_187 : decode cX9_token 187 = .ok (.iload_n 1, 1) := by decide +kernel
theorem dX9_token_188 : decode cX9_token 188 = .ok (.invokevirtual 144, 3) := by decide +kernel
theorem dX9_token_191 : decode cX9_token 191 = .ok (.ifCond .eq 36, 3) := by decide +kernel
theorem dX9_token_194 : decode cX9_token 194 = .ok (.aload_n 0, 1) := by decide +kernel
theorem dX9_token_195 : decode cX9_token 195 = .ok (.iload_n 2, 1) := by decide +kernel
theorem dX9_token_196 : decode cX9_token 196 = .ok (.invokevirtual 144, 3) := by decide +kernel
theorem dX9_token_199 : decode cX9_token 199 = .ok (.ifCond .eq 9, 3) := by decide +kernel
theorem dX9_token_202 : decode cX9_token 202 = .ok (.iinc 2 1, 3) := by decide +kernel
theorem dX9_token_205 : decode cX9_token 205 = .ok (.goto (-11), 3) := by decide +kernel
theorem dX9_token_208 : decode cX9_token 208 = .ok (.aload_n 0, 1) := by decide +kernel
theorem dX9_token_209 : decode cX9_token 209 = .ok (.iload_n 2, 1) := by decide +kernel
theorem dX9_token_210 : decode cX9_token 210 = .ok (.iload_n 1, 1) := by decide +kernel
theorem dX9_token_211 : decode cX9_token 211 = .ok (.isub, 1) := by decide +kernel
theorem dX9_token_212 : decode cX9_token 212 = .ok (.iconst 3, 1) := by decide +kernel
theorem dX9_token_213 : decode cX9_token 213 = .ok (.if_icmp .le 7, 3) := by decide +kernel
theorem dX9_token_216 : decode cX9_token 216 = .ok (.iconst 5, 1) := by decide +kernel
theorem dX9_token_217 : decode cX9_token 217 = .ok (.goto 4, 3) := by decide +kernel
theorem dX9_token_220 : decode cX9_token 220 = .ok (.iconst 2, 1) := by decide +kernel
theorem dX9_token_221 : decode cX9_token 221 = .ok (.putfield 137, 3) := by decide +kernel
theorem dX9_token_224 : decode cX9_token 224 = .ok (.goto 42, 3) := by decide +kernel
theorem dX9_token_227 : decode cX9_token 227 = .ok (.aload_n 0, 1) := by decide +kernel
theorem dX9_token_228 : decode cX9_token 228 = .ok (.iload_n 3, 1) := by decide +kernel
theorem dX9_token_229 : decode cX9_token 229 = .ok (.bipush 58, 2) := by decide +kernel
theorem dX9_token_231 : decode cX9_token 231 = .ok (.if_icmp .eq 21, 3) := by decide +kernel
theorem dX9_token_234 : decode cX9_token 234 = .ok (.iload_n 3, 1) := by decide +kernel
theorem dX9_token_235 : decode cX9_token 235 = .ok (.bipush 59, 2) := by decide +kernel
theorem dX9_token_237 : decode cX9_token 237 = .ok (.if_icmp .eq 15, 3) := by decide +kernel
theorem dX9_token_240 : decode cX9_token 240 = .ok (.iload_n 3, 1) := by decide +kernel
theorem dX9_token_241 : decode cX9_token 241 = .ok (.bipush 61, 2) := by decide +kernel
theorem dX9_token_243 : decode cX9_token 243 = .ok (.if_icmp .eq 9, 3) := by decide +kernel
theorem dX9_token_246 : decode cX9_token 246 = .ok (.iload_n 3, 1) := by decide +kernel
theorem dX9_token_247 : decode cX9_token 247 = .ok (.bipush 45, 2) := by decide +kernel
theorem dX9_token_249 : decode cX9_token 249 = .ok (.if_icmp .ne 7, 3) := by decide +kernel
theorem dX9_token_252 : decode cX9_token 252 = .ok (.iconst 3, 1) := by decide +kernel
theorem dX9_token_253 : decode cX9_token 253 = .ok (.goto 4, 3) := by decide +kernel
theorem dX9_token_256 : decode cX9_token 256 = .ok (.iconst 5, 1) := by decide +kernel
theorem dX9_token_257 : decode cX9_token 257 = .ok (.putfield 137, 3) := by decide +kernel
theorem dX9_token_260 : decode cX9_token 260 = .ok (.aload_n 0, 1) := by decide +kernel
theorem dX9_token_261 : decode cX9_token 261 = .ok (.iload_n 3, 1) := by decide +kernel
theorem dX9_token_262 : decode cX9_token 262 = .ok (.i2l, 1) := by decide +kernel
theorem dX9_token_263 : decode cX9_token 263 = .ok (.putfield 133, 3) := by decide +kernel
theorem dX9_token_266 : decode cX9_token 266 = .ok (.aload_n 0, 1) := by decide +kernel
theorem dX9_token_267 : decode cX9_token 267 = .ok (.iload_n 2, 1) := by decide +kernel
theorem dX9_token_268 : decode cX9_token 268 = .ok (.putfield 127, 3) := by decide +kernel
theorem dX9_token_271 : decode cX9_token 271 = .ok (.return_, 1) := by decide +kernel
theorem dX9_stop_0 : decode cX9_stop 0 = .ok (.aload_n 0, 1) := by decide +kernel
theorem dX9_stop_1 : decode cX9_stop 1 = .ok (.iload_n 1, 1) := by decide +kernel
theorem dX9_stop_2 : decode cX9_stop 2 = .ok (.putfield 147, 3) := by decide +kernel
theorem dX9_stop_5 : decode cX9_stop 5 = .ok (.aload_n 0, 1) := by decide +kernel
theorem dX9_stop_6 : decode cX9_stop 6 = .ok (.iload_n 2, 1) := by decide +kernel
theorem dX9_stop_7 : decode cX9_stop 7 = .ok (.putfield 92, 3) := by decide +kernel
theorem dX9_stop_10 : decode cX9_stop 10 = .ok (.aload_n 0, 1) := by decide +kernel
theorem dX9_stop_11 : decode cX9_stop 11 = .ok (.iconst 1, 1) := by decide +kernel
theorem dX9_stop_12 : decode cX9_stop 12 = .ok (.putfield 150, 3) := by decide +kernel
theorem dX9_stop_15 : decode cX9_stop 15 = .ok (.iconst 0, 1) := by decide +kernel
theorem dX9_stop_16 : decode cX9_stop 16 = .ok (.ireturn, 1) := by decide +kernel
theorem dX9_isWord_0 : decode cX9_isWord 0 = .ok (.aload_n 0, 1) := by decide +kernel
theorem dX9_isWord_1 : decode cX9_isWord 1 = .ok (.getfield 137, 3) := by decide +kernel
theorem dX9_isWord_4 : decode cX9_isWord 4 = .ok (.iconst 1, 1) := by decide +kernel
theorem dX9_isWord_5 : decode cX9_isWord 5 = .ok (.if_icmp .ne 16, 3) := by decide +kernel
theorem dX9_isWord_8 : decode cX9_isWord 8 = .ok (.aload_n 0, 1) := by decide +kernel
theorem dX9_isWord_9 : decode cX9_isWord 9 = .ok (.getfield 133, 3) := by decide +kernel
theorem dX9_isWord_12 : decode cX9_isWord 12 = .ok (.lload_n 1, 1) := by decide +kernel
theorem dX9_isWord_13 : decode cX9_isWord 13 = .ok (.lcmp, 1) := by decide +kernel
theorem dX9_isWord_14 : decode cX9_isWord 14 = .ok (.ifCond .ne 7, 3) := by decide +kernel
theorem dX9_isWord_17 : decode cX9_isWord 17 = .ok (.iconst 1, 1) := by decide +kernel
theorem dX9_isWord_18 : decode cX9_isWord 18 = .ok (.goto 4, 3) := by decide +kernel
theorem dX9_isWord_21 : decode cX9_isWord 21 = .ok (.iconst 0, 1) := by decide +kernel
theorem dX9_isWord_22 : decode cX9_isWord 22 = .ok (.ireturn, 1) := by decide +kernel
set_option maxRecDepth 20000 in
theorem ggX9_read_X9_token : GoodIn wsX9_read wsX9_token := goodIn_r _ [19, 4, 8, 20, 21, 22, 23, 24, 25, 26, 18, 27, 28, 29, 30, 31, 32, 33, 34, 35, 136, 137, 138, 139, 140, 141, 142, 143, 144, 145, 146, 147, 148, 149, 150, 151, 152, 153, 154, 155, 156, 157, 158, 159, 160, 161, 162, 163, 164, 165, 166, 167, 168, 169, 170, 171, 172, 173, 174, 175, 176, 177, 178, 179, 180, 181, 182, 183, 184, 185, 186, 187] (by decide +kernel) (by decide +kernel)
set_option maxRecDepth 20000 in
theorem gX9_read_X9_token : GoodIn wsX9_read (wsV RX9 161 RX9 yX9_token wsX9_token) := goodIn_app (goodIn_of _ (by decide +kernel)) ggX9_read_X9_token
set_option maxRecDepth 20000 in
theorem ggX9_read_X9_text : GoodIn wsX9_read wsX9_text := goodIn_r _ [39, 40, 41, 42, 43, 7, 44, 21, 6, 23, 45, 46, 47, 18, 48, 22, 49, 50, 51, 52, 5, 53, 54, 55, 56, 1, 2, 3, 15, 16, 17, 19, 4, 8, 20, 24, 25, 26, 27, 28, 29, 30, 31, 32, 33, 34, 35, 57, 58, 59, 60, 61, 62, 63, 64, 65, 66, 67, 68, 69, 70, 71, 72, 73, 74, 75, 76, 77, 78, 79, 80, 81, 82, 83, 84, 85, 86, 87, 88, 89, 90, 91, 92, 93, 94, 95, 96, 97, 98, 99, 100, 101, 102, 103, 104, 105, 106, 107, 108, 109, 110, 111, 112, 113, 114, 115, 116, 117, 118, 119, 120, 121, 122, 123, 124, 125, 126, 127, 136, 137, 138, 139, 140, 141, 142, 143, 144, 145, 146, 147, 148, 149, 150, 151, 152, 153, 154, 155, 156, 157, 158, 159, 160, 161, 162, 163, 164, 165, 166, 167, 168, 169, 170, 171, 172, 173, 174, 175, 176, 177, 178, 179, 180, 181, 182, 183, 184, 185, 186, 187] (by decide +kernel) (by decide +kernel)
set_option maxRecDepth 20000 in
theorem gX9_read_X9_text : GoodIn wsX9_read (wsV RX9 217 RX9 yX9_text wsX9_text) := goodIn_app (goodIn_of _ (by decide +kernel)) ggX9_read_X9_text
theorem dX9_read_0 : decode cX9_read 0 = .ok (.aload_n 0, 1) := by decide +kernel
theorem dX9_read_1 : decode cX9_read 1 = .ok (.iconst 0, 1) := by decide +kernel
theorem dX9_read_2 : decode cX9_read 2 = .ok (.putfield 147, 3) := by decide +kernel
theorem dX9_read_5 : decode cX9_read 5 = .ok (.aload_n 0, 1) := by decide +kernel
theorem dX9_read_6 : decode cX9_read 6 = .ok (.iconst (-1), 1) := by decide +kernel
theorem dX9_read_7 : decode cX9_read 7 = .ok (.putfield 92, 3) := by decide +kernel
theorem dX9_read_10 : decode cX9_read 10 = .ok (.aload_n 0, 1) := by decide +kernel
theorem dX9_read_11 : decode cX9_read 11 = .ok (.iconst 0, 1) := by decide +kernel
theorem dX9_read_12 : decode cX9_read 12 = .ok (.putfield 150, 3) := by decide +kernel
theorem dX9_read_15 : decode cX9_read 15 = .ok (.aload_n 0, 1) := by decide +kernel
theorem dX9_read_16 : decode cX9_read 16 = .ok (.iconst 0, 1) := by decide +kernel
theorem dX9_read_17 : decode cX9_read 17 = .ok (.putfield 127, 3) := by decide +kernel
theorem dX9_read_20 : decode cX9_read 20 = .ok (.aload_n 0, 1) := by decide +kernel
theorem dX9_read_21 : decode cX9_read 21 = .ok (.iconst 1, 1) := by decide +kernel
theorem dX9_read_22 : decode cX9_read 22 = .ok (.putfield 154, 3) := by decide +kernel
theorem dX9_read_25 : decode cX9_read 25 = .ok (.aload_n 0, 1) := by decide +kernel
theorem dX9_read_26 : decode cX9_read 26 = .ok (.invokevirtual 161, 3) := by decide +kernel
theorem dX9_read_29 : decode cX9_read 29 = .ok (.aload_n 0, 1) := by decide +kernel
theorem dX9_read_30 : decode cX9_read 30 = .ok (.getfield 7, 3) := by decide +kernel
theorem dX9_read_33 : decode cX9_read 33 = .ok (.iconst 1, 1) := by decide +kernel
theorem dX9_read_34 : decode cX9_read 34 = .ok (.iconst 0, 1) := by decide +kernel
theorem dX9_read_35 : decode cX9_read 35 = .ok (.iastore, 1) := by decide +kernel
theorem dX9_read_36 : decode cX9_read 36 = .ok (.iconst 0, 1) := by decide +kernel
theorem dX9_read_37 : decode cX9_read 37 = .ok (.istore_n 1, 1) := by decide +kernel
theorem dX9_read_38 : decode cX9_read 38 = .ok (.iload_n 1, 1) := by decide +kernel
theorem dX9_read_39 : decode cX9_read 39 = .ok (.iconst 4, 1) := by decide +kernel
theorem dX9_read_40 : decode cX9_read 40 = .ok (.if_icmp .ge 18, 3) := by decide +kernel
theorem dX9_read_43 : decode cX9_read 43 = .ok (.aload_n 0, 1) := by decide +kernel
theorem dX9_read_44 : decode cX9_read 44 = .ok (.getfield 40, 3) := by decide +kernel
theorem dX9_read_47 : decode cX9_read 47 = .ok (.iconst 4, 1) := by decide +kernel
theorem dX9_read_48 : decode cX9_read 48 = .ok (.iload_n 1, 1) := by decide +kernel
theorem dX9_read_49 : decode cX9_read 49 = .ok (.iadd, 1) := by decide +kernel
theorem dX9_read_50 : decode cX9_read 50 = .ok (.iconst 0, 1) := by decide +kernel
theorem dX9_read_51 : decode cX9_read 51 = .ok (.iastore, 1) := by decide +kernel
theorem dX9_read_52 : decode cX9_read 52 = .ok (.iinc 1 1, 3) := by decide +kernel
theorem dX9_read_55 : decode cX9_read 55 = .ok (.goto (-17), 3) := by decide +kernel
theorem dX9_read_58 : decode cX9_read 58 = .ok (.aload_n 0, 1) := by decide +kernel
theorem dX9_read_59 : decode cX9_read 59 = .ok (.invokevirtual 217, 3) := by decide +kernel
theorem dX9_read_62 : decode cX9_read 62 = .ok (.ifCond .eq 14, 3) := by decide +kernel
theorem dX9_read_65 : decode cX9_read 65 = .ok (.aload_n 0, 1) := by decide +kernel
theorem dX9_read_66 : decode cX9_read 66 = .ok (.getfield 147, 3) := by decide +kernel
theorem dX9_read_69 : decode cX9_read 69 = .ok (.ifCond .ne 7, 3) := by decide +kernel
theorem dX9_read_72 : decode cX9_read 72 = .ok (.iconst 1, 1) := by decide +kernel
theorem dX9_read_73 : decode cX9_read 73 = .ok (.goto 4, 3) := by decide +kernel
theorem dX9_read_76 : decode cX9_read 76 = .ok (.iconst 0, 1) := by decide +kernel
theorem dX9_read_77 : decode cX9_read 77 = .ok (.istore_n 1, 1) := by decide +kernel
theorem dX9_read_78 : decode cX9_read 78 = .ok (.aload_n 0, 1) := by decide +kernel
theorem dX9_read_79 : decode cX9_read 79 = .ok (.iconst 0, 1) := by decide +kernel
theorem dX9_read_80 : decode cX9_read 80 = .ok (.putfield 116, 3) := by decide +kernel
theorem dX9_read_83 : decode cX9_read 83 = .ok (.iload_n 1, 1) := by decide +kernel
theorem dX9_read_84 : decode cX9_read 84 = .ok (.ifCond .ne 8, 3) := by decide +kernel
theorem dX9_read_87 : decode cX9_read 87 = .ok (.aload_n 0, 1) := by decide +kernel
theorem dX9_read_88 : decode cX9_read 88 = .ok (.getfield 147, 3) := by decide +kernel
theorem dX9_read_91 : decode cX9_read 91 = .ok (.ireturn, 1) := by decide +kernel
theorem dX9_read_92 : decode cX9_read 92 = .ok (.aload_n 0, 1) := by decide +kernel
theorem dX9_read_93 : decode cX9_read 93 = .ok (.iconst 1, 1) := by decide +kernel
theorem dX9_read_94 : decode cX9_read 94 = .ok (.iconst 0, 1) := by decide +kernel
theorem dX9_read_95 : decode cX9_read 95 = .ok (.invokevirtual 220, 3) := by decide +kernel
theorem dX9_read_98 : decode cX9_read 98 = .ok (.iconst 0, 1) := by decide +kernel
theorem dX9_read_99 : decode cX9_read 99 = .ok (.istore_n 2, 1) := by decide +kernel
theorem dX9_read_100 : decode cX9_read 100 = .ok (.iload_n 2, 1) := by decide +kernel
theorem dX9_read_101 : decode cX9_read 101 = .ok (.iconst 4, 1) := by decide +kernel
theorem dX9_read_102 : decode cX9_read 102 = .ok (.if_icmp .ge 23, 3) := by decide +kernel
theorem dX9_read_105 : decode cX9_read 105 = .ok (.aload_n 0, 1) := by decide +kernel
theorem dX9_read_106 : decode cX9_read 106 = .ok (.getfield 40, 3) := by decide +kernel
theorem dX9_read_109 : decode cX9_read 109 = .ok (.iload_n 2, 1) := by decide +kernel
theorem dX9_read_110 : decode cX9_read 110 = .ok (.aload_n 0, 1) := by decide +kernel
theorem dX9_read_111 : decode cX9_read 111 = .ok (.getfield 40, 3) := by decide +kernel
theorem dX9_read_114 : decode cX9_read 114 = .ok (.iconst 4, 1) := by decide +kernel
theorem dX9_read_115 : decode cX9_read 115 = .ok (.iload_n 2, 1) := by decide +kernel
theorem dX9_read_116 : decode cX9_read 116 = .ok (.iadd, 1) := by decide +kernel
theorem dX9_read_117 : decode cX9_read 117 = .ok (.iaload, 1) := by decide +kernel
theorem dX9_read_118 : decode cX9_read 118 = .ok (.iastore, 1) := by decide +kernel
theorem dX9_read_119 : decode cX9_read 119 = .ok (.iinc 2 1, 3) := by decide +kernel
theorem dX9_read_122 : decode cX9_read 122 = .ok (.goto (-22), 3) := by decide +kernel
theorem dX9_read_125 : decode cX9_read 125 = .ok (.aload_n 0, 1) := by decide +kernel
theorem dX9_read_126 : decode cX9_read 126 = .ok (.iconst 1, 1) := by decide +kernel
theorem dX9_read_127 : decode cX9_read 127 = .ok (.putfield 224, 3) := by decide +kernel
theorem dX9_read_130 : decode cX9_read 130 = .ok (.aload_n 0, 1) := by decide +kernel
theorem dX9_read_131 : decode cX9_read 131 = .ok (.iconst (-1), 1) := by decide +kernel
theorem dX9_read_132 : decode cX9_read 132 = .ok (.putfield 84, 3) := by decide +kernel
theorem dX9_read_135 : decode cX9_read 135 = .ok (.aload_n 0, 1) := by decide +kernel
theorem dX9_read_136 : decode cX9_read 136 = .ok (.iconst 0, 1) := by decide +kernel
theorem dX9_read_137 : decode cX9_read 137 = .ok (.putfield 227, 3) := by decide +kernel
theorem dX9_read_140 : decode cX9_read 140 = .ok (.iconst 0, 1) := by decide +kernel
theorem dX9_read_141 : decode cX9_read 141 = .ok (.istore_n 2, 1) := by decide +kernel
theorem dX9_read_142 : decode cX9_read 142 = .ok (.iload_n 2, 1) := by decide +kernel
theorem dX9_read_143 : decode cX9_read 143 = .ok (.iconst 3, 1) := by decide +kernel
theorem dX9_read_144 : decode cX9_read 144 = .ok (.if_icmp .ge 16, 3) := by decide +kernel
theorem dX9_read_147 : decode cX9_read 147 = .ok (.aload_n 0, 1) := by decide +kernel
theorem dX9_read_148 : decode cX9_read 148 = .ok (.getfield 66, 3) := by decide +kernel
theorem dX9_read_151 : decode cX9_read 151 = .ok (.iload_n 2, 1) := by decide +kernel
theorem dX9_read_152 : decode cX9_read 152 = .ok (.iconst 0, 1) := by decide +kernel
theorem dX9_read_153 : decode cX9_read 153 = .ok (.bastore, 1) := by decide +kernel
theorem dX9_read_154 : decode cX9_read 154 = .ok (.iinc 2 1, 3) := by decide +kernel
theorem dX9_read_157 : decode cX9_read 157 = .ok (.goto (-15), 3) := by decide +kernel
theorem dX9_read_160 : decode cX9_read 160 = .ok (.aload_n 0, 1) := by decide +kernel
theorem dX9_read_161 : decode cX9_read 161 = .ok (.iconst (-1), 1) := by decide +kernel
theorem dX9_read_162 : decode cX9_read 162 = .ok (.putfield 98, 3) := by decide +kernel
theorem dX9_read_165 : decode cX9_read 165 = .ok (.aload_n 0, 1) := by decide +kernel
theorem dX9_read_166 : decode cX9_read 166 = .ok (.iconst (-1), 1) := by decide +kernel
theorem dX9_read_167 : decode cX9_read 167 = .ok (.putfield 104, 3) := by decide +kernel
theorem dX9_read_170 : decode cX9_read 170 = .ok (.iconst 0, 1) := by decide +kernel
theorem dX9_read_171 : decode cX9_read 171 = .ok (.ireturn, 1) := by decide +kernel
set_option maxRecDepth 20000 in
theorem ggX9_text_X9_isWord : GoodIn wsX9_text wsX9_isWord := goodIn_r _ [14, 9, 15, 118, 119, 120, 121, 122, 123, 124, 125, 126, 127, 128, 129, 130, 131, 132, 133, 134, 135, 136, 137, 138, 139, 140, 141, 142, 143, 144, 145, 146, 147, 148, 149, 150, 151, 152, 153, 154, 155, 156, 157, 158, 159, 160, 161, 162, 163, 164, 165, 166, 167, 168, 169] (by decide +kernel) (by decide +kernel)
set_option maxRecDepth 20000 in
theorem gX9_text_X9_isWord : GoodIn wsX9_text (wsV RX9 168 RX9 yX9_isWord wsX9_isWord) := goodIn_app (goodIn_of _ (by decide +kernel)) ggX9_text_X9_isWord
set_option maxRecDepth 20000 in
theorem ggX9_text_X9_stop : GoodIn wsX9_text wsX9_stop := goodIn_r _ [24, 25, 26, 27, 118, 119, 120, 121, 122, 123, 124, 125, 126, 127, 128, 129, 130, 131, 132, 133, 134, 135, 136, 137, 138, 139, 140, 141, 142, 143, 144, 145, 146, 147, 148, 149, 150, 151, 152, 153, 154, 155, 156, 157, 158, 159, 160, 161, 162, 163, 164, 165, 166, 167, 168, 169] (by decide +kernel) (by decide +kernel)
set_option maxRecDepth 20000 in
theorem gX9_text_X9_stop : GoodIn wsX9_text (wsV RX9 157 RX9 yX9_stop wsX9_stop) := goodIn_app (goodIn_of _ (by decide +kernel)) ggX9_text_X9_stop
theorem dX9_text_0 : decode cX9_text 0 = .ok (.iconst 0, 1) := by decide +kernel
theorem dX9_text_1 : decode cX9_text 1 = .ok (.istore_n 1, 1) := by decide +kernel
theorem dX9_text_2 : decode cX9_text 2 = .ok (.aload_n 0, 1) := by decide +kernel
theorem dX9_text_3 : decode cX9_text 3 = .ok (.ldc2_w 230, 3) := by decide +kernel
theorem dX9_text_6 : decode cX9_text 6 = .ok (.invokevirtual 168, 3) := by decide +kernel
theorem dX9_text_9 : decode cX9_text 9 = .ok (.ifCond .eq 105, 3) := by decide +kernel
theorem dX9_text_12 : decode cX9_text 12 = .ok (.aload_n 0, 1) := by decide +kernel
theorem dX9_text_13 : decode cX9_text 13 = .ok (.bipush 72, 2) := by decide +kernel
theorem dX9_text_15 : decode cX9_text 15 = .ok (.putfield 186, 3) := by decide +kernel
theorem dX9_text_18 : decode cX9_text 18 = .ok (.aload_n 0, 1) := by decide +kernel
theorem dX9_text_19 : decode cX9_text 19 = .ok (.invokevirtual 164, 3) := by decide +kernel
theorem dX9_text_22 : decode cX9_text 22 = .ok (.ifCond .eq 10, 3) := by decide +kernel
theorem dX9_text_25 : decode cX9_text 25 = .ok (.aload_n 0, 1) := by decide +kernel
theorem dX9_text_26 : decode cX9_text 26 = .ok (.invokevirtual 232, 3) := by decide +kernel
theorem dX9_text_29 : decode cX9_text 29 = .ok (.ifCond .ne 5, 3) := by decide +kernel
theorem dX9_text_32 : decode cX9_text 32 = .ok (.iconst 0, 1) := by decide +kernel
theorem dX9_text_33 : decode cX9_text 33 = .ok (.ireturn, 1) := by decide +kernel
theorem dX9_text_34 : decode cX9_text 34 = .ok (.aload_n 0, 1) := by decide +kernel
theorem dX9_text_35 : decode cX9_text 35 = .ok (.getfield 175, 3) := by decide +kernel
theorem dX9_text_38 : decode cX9_text 38 = .ok (.istore_n 2, 1) := by decide +kernel
theorem dX9_text_39 : decode cX9_text 39 = .ok (.iload_n 2, 1) := by decide +kernel
theorem dX9_text_40 : decode cX9_text 40 = .ok (.iconst 4, 1) := by decide +kernel
theorem dX9_text_41 : decode cX9_text 41 = .ok (.if_icmp .ge 20, 3) := by decide +kernel
theorem dX9_text_44 : decode cX9_text 44 = .ok (.iload_n 1, 1) := by decide +kernel
theorem dX9_text_45 : decode cX9_text 45 = .ok (.iload_n 2, 1) := by decide +kernel
theorem dX9_text_46 : decode cX9_text 46 = .ok (.ishr, 1) := by decide +kernel
theorem dX9_text_47 : decode cX9_text 47 = .ok (.iconst 1, 1) := by decide +kernel
theorem dX9_text_48 : decode cX9_text 48 = .ok (.iand, 1) := by decide +kernel
theorem dX9_text_49 : decode cX9_text 49 = .ok (.iconst 1, 1) := by decide +kernel
theorem dX9_text_50 : decode cX9_text 50 = .ok (.if_icmp .ne 11, 3) := by decide +kernel
theorem dX9_text_53 : decode cX9_text 53 = .ok (.aload_n 0, 1) := by decide +kernel
theorem dX9_text_54 : decode cX9_text 54 = .ok (.aload_n 0, 1) := by decide +kernel
theorem dX9_text_55 : decode cX9_text 55 = .ok (.getfield 172, 3) := by decide +kernel
theorem dX9_text_58 : decode cX9_text 58 = .ok (.invokevirtual 183, 3) := by decide +kernel
theorem dX9_text_61 : decode cX9_text 61 = .ok (.aload_n 0, 1) := by decide +kernel
theorem dX9_text_62 : decode cX9_text 62 = .ok (.bipush 61, 2) := by decide +kernel
theorem dX9_text_64 : decode cX9_text 64 = .ok (.invokevirtual 235, 3) := by decide +kernel
theorem dX9_text_67 : decode cX9_text 67 = .ok (.ifCond .eq 19, 3) := by decide +kernel
theorem dX9_text_70 : decode cX9_text 70 = .ok (.aload_n 0, 1) := by decide +kernel
theorem dX9_text_71 : decode cX9_text 71 = .ok (.invokevirtual 196, 3) := by decide +kernel
theorem dX9_text_74 : decode cX9_text 74 = .ok (.ifCond .eq 12, 3) := by decide +kernel
theorem dX9_text_77 : decode cX9_text 77 = .ok (.aload_n 0, 1) := by decide +kernel
theorem dX9_text_78 : decode cX9_text 78 = .ok (.bipush 59, 2) := by decide +kernel
theorem dX9_text_80 : decode cX9_text 80 = .ok (.invokevirtual 235, 3) := by decide +kernel
theorem dX9_text_83 : decode cX9_text 83 = .ok (.ifCond .ne 5, 3) := by decide +kernel
theorem dX9_text_86 : decode cX9_text 86 = .ok (.iconst 0, 1) := by decide +kernel
theorem dX9_text_87 : decode cX9_text 87 = .ok (.ireturn, 1) := by decide +kernel
theorem dX9_text_88 : decode cX9_text 88 = .ok (.iload_n 2, 1) := by decide +kernel
theorem dX9_text_89 : decode cX9_text 89 = .ok (.iconst 4, 1) := by decide +kernel
theorem dX9_text_90 : decode cX9_text 90 = .ok (.if_icmp .ge 21, 3) := by decide +kernel
theorem dX9_text_93 : decode cX9_text 93 = .ok (.iload_n 1, 1) := by decide +kernel
theorem dX9_text_94 : decode cX9_text 94 = .ok (.iconst 1, 1) := by decide +kernel
theorem dX9_text_95 : decode cX9_text 95 = .ok (.iload_n 2, 1) := by decide +kernel
theorem dX9_text_96 : decode cX9_text 96 = .ok (.ishl, 1) := by decide +kernel
theorem dX9_text_97 : decode cX9_text 97 = .ok (.ior, 1) := by decide +kernel
theorem dX9_text_98 : decode cX9_text 98 = .ok (.istore_n 1, 1) := by decide +kernel
theorem dX9_text_99 : decode cX9_text 99 = .ok (.aload_n 0, 1) := by decide +kernel
theorem dX9_text_100 : decode cX9_text 100 = .ok (.getfield 40, 3) := by decide +kernel
theorem dX9_text_103 : decode cX9_text 103 = .ok (.iconst 4, 1) := by decide +kernel
theorem dX9_text_104 : decode cX9_text 104 = .ok (.iload_n 2, 1) := by decide +kernel
theorem dX9_text_105 : decode cX9_text 105 = .ok (.iadd, 1) := by decide +kernel
theorem dX9_text_106 : decode cX9_text 106 = .ok (.aload_n 0, 1) := by decide +kernel
theorem dX9_text_107 : decode cX9_text 107 = .ok (.getfield 175, 3) := by decide +kernel
theorem dX9_text_110 : decode cX9_text 110 = .ok (.iastore, 1) := by decide +kernel
theorem dX9_text_111 : decode cX9_text 111 = .ok (.goto (-109), 3) := by decide +kernel
theorem dX9_text_114 : decode cX9_text 114 = .ok (.iconst 1, 1) := by decide +kernel
theorem dX9_text_115 : decode cX9_text 115 = .ok (.istore_n 2, 1) := by decide +kernel
theorem dX9_text_116 : decode cX9_text 116 = .ok (.iload_n 2, 1) := by decide +kernel
theorem dX9_text_117 : decode cX9_text 117 = .ok (.ifCond .eq 78, 3) := by decide +kernel
theorem dX9_text_120 : decode cX9_text 120 = .ok (.aload_n 0, 1) := by decide +kernel
theorem dX9_text_121 : decode cX9_text 121 = .ok (.ldc2_w 238, 3) := by decide +kernel
theorem dX9_text_124 : decode cX9_text 124 = .ok (.invokevirtual 168, 3) := by decide +kernel
theorem dX9_text_127 : decode cX9_text 127 = .ok (.ifCond .ne 13, 3) := by decide +kernel
theorem dX9_text_130 : decode cX9_text 130 = .ok (.aload_n 0, 1) := by decide +kernel
theorem dX9_text_131 : decode cX9_text 131 = .ok (.iconst 1, 1) := by decide +kernel
theorem dX9_text_132 : decode cX9_text 132 = .ok (.aload_n 0, 1) := by decide +kernel
theorem dX9_text_133 : decode cX9_text 133 = .ok (.getfield 130, 3) := by decide +kernel
theorem dX9_text_136 : decode cX9_text 136 = .ok (.invokevirtual 157, 3) := by decide +kernel
theorem dX9_text_139 : decode cX9_text 139 = .ok (.ireturn, 1) := by decide +kernel
theorem dX9_text_140 : decode cX9_text 140 = .ok (.aload_n 0, 1) := by decide +kernel
theorem dX9_text_141 : decode cX9_text 141 = .ok (.getfield 7, 3) := by decide +kernel
theorem dX9_text_144 : decode cX9_text 144 = .ok (.iconst 1, 1) := by decide +kernel
theorem dX9_text_145 : decode cX9_text 145 = .ok (.iaload, 1) := by decide +kernel
theorem dX9_text_146 : decode cX9_text 146 = .ok (.iconst 3, 1) := by decide +kernel
theorem dX9_text_147 : decode cX9_text 147 = .ok (.if_icmp .ne 13, 3) := by decide +kernel
theorem dX9_text_150 : decode cX9_text 150 = .ok (.aload_n 0, 1) := by decide +kernel
theorem dX9_text_151 : decode cX9_text 151 = .ok (.iconst 2, 1) := by decide +kernel
theorem dX9_text_152 : decode cX9_text 152 = .ok (.aload_n 0, 1) := by decide +kernel
theorem dX9_text_153 : decode cX9_text 153 = .ok (.getfield 130, 3) := by decide +kernel
theorem dX9_text_156 : decode cX9_text 156 = .ok (.invokevirtual 157, 3) := by decide +kernel
theorem dX9_text_159 : decode cX9_text 159 = .ok (.ireturn, 1) := by decide +kernel
theorem dX9_text_160 : decode cX9_text 160 = .ok (.aload_n 0, 1) := by decide +kernel
theorem dX9_text_161 : decode cX9_text 161 = .ok (.invokevirtual 240, 3) := by decide +kernel
theorem dX9_text_164 : decode cX9_text 164 = .ok (.ifCond .ne 5, 3) := by decide +kernel
theorem dX9_text_167 : decode cX9_text 167 = .ok (.iconst 0, 1) := by decide +kernel
theorem dX9_text_168 : decode cX9_text 168 = .ok (.ireturn, 1) := by decide +kernel
theorem dX9_text_169 : decode cX9_text 169 = .ok (.aload_n 0, 1) := by decide +kernel
theorem dX9_text_170 : decode cX9_text 170 = .ok (.getfield 7, 3) := by decide +kernel
theorem dX9_text_173 : decode cX9_text 173 = .ok (.iconst 1, 1) := by decide +kernel
theorem dX9_text_174 : decode cX9_text 174 = .ok (.dup2, 1) := by decide +kernel
theorem dX9_text_175 : decode cX9_text 175 = .ok (.iaload, 1) := by decide +kernel
theorem dX9_text_176 : decode cX9_text 176 = .ok (.iconst 1, 1) := by decide +kernel
theorem dX9_text_177 : decode cX9_text 177 = .ok (.iadd, 1) := by decide +kernel
theorem dX9_text_178 : decode cX9_text 178 = .ok (.iastore, 1) := by decide +kernel
theorem dX9_text_179 : decode cX9_text 179 = .ok (.aload_n 0, 1) := by decide +kernel
theorem dX9_text_180 : decode cX9_text 180 = .ok (.getfield 137, 3) := by decide +kernel
theorem dX9_text_183 : decode cX9_text 183 = .ok (.ifCond .eq 7, 3) := by decide +kernel
theorem dX9_text_186 : decode cX9_text 186 = .ok (.iconst 1, 1) := by decide +kernel
theorem dX9_text_187 : decode cX9_text 187 = .ok (.goto 4, 3) := by decide +kernel
theorem dX9_text_190 : decode cX9_text 190 = .ok (.iconst 0, 1) := by decide +kernel
theorem dX9_text_191 : decode cX9_text 191 = .ok (.istore_n 2, 1) := by decide +kernel
theorem dX9_text_192 : decode cX9_text 192 = .ok (.goto (-76), 3) := by decide +kernel
theorem dX9_text_195 : decode cX9_text 195 = .ok (.iconst 1, 1) := by decide +kernel
theorem dX9_text_196 : decode cX9_text 196 = .ok (.ireturn, 1) := by decide +kernel
theorem dX9_place_0 : decode cX9_place 0 = .ok (.aload_n 0, 1) := by decide +kernel
theorem dX9_place_1 : decode cX9_place 1 = .ok (.getfield 92, 3) := by decide +kernel
theorem dX9_place_4 : decode cX9_place 4 = .ok (.ireturn, 1) := by decide +kernel
theorem dX9_ins_0 : decode cX9_ins 0 = .ok (.aload_n 0, 1) := by decide +kernel
theorem dX9_ins_1 : decode cX9_ins 1 = .ok (.getfield 224, 3) := by decide +kernel
theorem dX9_ins_4 : decode cX9_ins 4 = .ok (.ifCond .eq 31, 3) := by decide +kernel
theorem dX9_ins_7 : decode cX9_ins 7 = .ok (.iload_n 1, 1) := by decide +kernel
theorem dX9_ins_8 : decode cX9_ins 8 = .ok (.ifCond .lt 27, 3) := by decide +kernel
theorem dX9_ins_11 : decode cX9_ins 11 = .ok (.iload_n 1, 1) := by decide +kernel
theorem dX9_ins_12 : decode cX9_ins 12 = .ok (.aload_n 0, 1) := by decide +kernel
theorem dX9_ins_13 : decode cX9_ins 13 = .ok (.getfield 7, 3) := by decide +kernel
theorem dX9_ins_16 : decode cX9_ins 16 = .ok (.iconst 0, 1) := by decide +kernel
theorem dX9_ins_17 : decode cX9_ins 17 = .ok (.iaload, 1) := by decide +kernel
theorem dX9_ins_18 : decode cX9_ins 18 = .ok (.if_icmp .ge 17, 3) := by decide +kernel
theorem dX9_ins_21 : decode cX9_ins 21 = .ok (.iload_n 2, 1) := by decide +kernel
theorem dX9_ins_22 : decode cX9_ins 22 = .ok (.ifCond .lt 13, 3) := by decide +kernel
theorem dX9_ins_25 : decode cX9_ins 25 = .ok (.iload_n 2, 1) := by decide +kernel
theorem dX9_ins_26 : decode cX9_ins 26 = .ok (.aload_n 0, 1) := by decide +kernel
theorem dX9_ins_27 : decode cX9_ins 27 = .ok (.getfield 13, 3) := by decide +kernel
theorem dX9_ins_30 : decode cX9_ins 30 = .ok (.iload_n 1, 1) := by decide +kernel
theorem dX9_ins_31 : decode cX9_ins 31 = .ok (.iaload, 1) := by decide +kernel
theorem dX9_ins_32 : decode cX9_ins 32 = .ok (.if_icmp .lt 5, 3) := by decide +kernel
theorem dX9_ins_35 : decode cX9_ins 35 = .ok (.iconst (-1), 1) := by decide +kernel
theorem dX9_ins_36 : decode cX9_ins 36 = .ok (.ireturn, 1) := by decide +kernel
theorem dX9_ins_37 : decode cX9_ins 37 = .ok (.bipush 12, 2) := by decide +kernel
theorem dX9_ins_39 : decode cX9_ins 39 = .ok (.iload_n 1, 1) := by decide +kernel
theorem dX9_ins_40 : decode cX9_ins 40 = .ok (.imul, 1) := by decide +kernel
theorem dX9_ins_41 : decode cX9_ins 41 = .ok (.iload_n 2, 1) := by decide +kernel
theorem dX9_ins_42 : decode cX9_ins 42 = .ok (.iadd, 1) := by decide +kernel
theorem dX9_ins_43 : decode cX9_ins 43 = .ok (.istore 4, 2) := by decide +kernel
theorem dX9_ins_45 : decode cX9_ins 45 = .ok (.iload_n 3, 1) := by decide +kernel
theorem dX9_ins_46 : decode cX9_ins 46 = .ok (.tableswitch 110 0 7 #[46, 54, 62, 70, 78, 86, 94, 102], 46) := by decide +kernel
theorem dX9_ins_92 : decode cX9_ins 92 = .ok (.aload_n 0, 1) := by decide +kernel
theorem dX9_ins_93 : decode cX9_ins 93 = .ok (.getfield 16, 3) := by decide +kernel
theorem dX9_ins_96 : decode cX9_ins 96 = .ok (.iload 4, 2) := by decide +kernel
theorem dX9_ins_98 : decode cX9_ins 98 = .ok (.iaload, 1) := by decide +kernel
theorem dX9_ins_99 : decode cX9_ins 99 = .ok (.ireturn, 1) := by decide +kernel
theorem dX9_ins_100 : decode cX9_ins 100 = .ok (.aload_n 0, 1) := by decide +kernel
theorem dX9_ins_101 : decode cX9_ins 101 = .ok (.getfield 19, 3) := by decide +kernel
theorem dX9_ins_104 : decode cX9_ins 104 = .ok (.iload 4, 2) := by decide +kernel
theorem dX9_ins_106 : decode cX9_ins 106 = .ok (.iaload, 1) := by decide +kernel
theorem dX9_ins_107 : decode cX9_ins 107 = .ok (.ireturn, 1) := by decide +kernel
theorem dX9_ins_108 : decode cX9_ins 108 = .ok (.aload_n 0, 1) := by decide +kernel
theorem dX9_ins_109 : decode cX9_ins 109 = .ok (.getfield 22, 3) := by decide +kernel
theorem dX9_ins_112 : decode cX9_ins 112 = .ok (.iload 4, 2) := by decide +kernel
theorem dX9_ins_114 : decode cX9_ins 114 = .ok (.iaload, 1) := by decide +kernel
theorem dX9_ins_115 : decode cX9_ins 115 = .ok (.ireturn, 1) := by decide +kernel
theorem dX9_ins_116 : decode cX9_ins 116 = .ok (.aload_n 0, 1) := by decide +kernel
theorem dX9_ins_117 : decode cX9_ins 117 = .ok (.getfield 25, 3) := by decide +kernel
theorem dX9_ins_120 : decode cX9_ins 120 = .ok (.iload 4, 2) := by decide +kernel
theorem dX9_ins_122 : decode cX9_ins 122 = .ok (.iaload, 1) := by decide +kernel
theorem dX9_ins_123 : decode cX9_ins 123 = .ok (.ireturn, 1) := by decide +kernel
theorem dX9_ins_124 : decode cX9_ins 124 = .ok (.aload_n 0, 1) := by decide +kernel
theorem dX9_ins_125 : decode cX9_ins 125 = .ok (.getfield 28, 3) := by decide +kernel
theorem dX9_ins_128 : decode cX9_ins 128 = .ok (.iload 4, 2) := by decide +kernel
theorem dX9_ins_130 : decode cX9_ins 130 = .ok (.iaload, 1) := by decide +kernel
theorem dX9_ins_131 : decode cX9_ins 131 = .ok (.ireturn, 1) := by decide +kernel
theorem dX9_ins_132 : decode cX9_ins 132 = .ok (.aload_n 0, 1) := by decide +kernel
theorem dX9_ins_133 : decode cX9_ins 133 = .ok (.getfield 31, 3) := by decide +kernel
theorem dX9_ins_136 : decode cX9_ins 136 = .ok (.iload 4, 2) := by decide +kernel
theorem dX9_ins_138 : decode cX9_ins 138 = .ok (.iaload, 1) := by decide +kernel
theorem dX9_ins_139 : decode cX9_ins 139 = .ok (.ireturn, 1) := by decide +kernel
theorem dX9_ins_140 : decode cX9_ins 140 = .ok (.aload_n 0, 1) := by decide +kernel
theorem dX9_ins_141 : decode cX9_ins 141 = .ok (.getfield 34, 3) := by decide +kernel
theorem dX9_ins_144 : decode cX9_ins 144 = .ok (.iload 4, 2) := by decide +kernel
theorem dX9_ins_146 : decode cX9_ins 146 = .ok (.iaload, 1) := by decide +kernel
theorem dX9_ins_147 : decode cX9_ins 147 = .ok (.ireturn, 1) := by decide +kernel
theorem dX9_ins_148 : decode cX9_ins 148 = .ok (.aload_n 0, 1) := by decide +kernel
theorem dX9_ins_149 : decode cX9_ins 149 = .ok (.getfield 37, 3) := by decide +kernel
theorem dX9_ins_152 : decode cX9_ins 152 = .ok (.iload 4, 2) := by decide +kernel
theorem dX9_ins_154 : decode cX9_ins 154 = .ok (.iaload, 1) := by decide +kernel
theorem dX9_ins_155 : decode cX9_ins 155 = .ok (.ireturn, 1) := by decide +kernel
theorem dX9_ins_156 : decode cX9_ins 156 = .ok (.iconst (-1), 1) := by decide +kernel
theorem dX9_ins_157 : decode cX9_ins 157 = .ok (.ireturn, 1) := by decide +kernel
theorem dX9_begin_0 : decode cX9_begin 0 = .ok (.aload_n 0, 1) := by decide +kernel
theorem dX9_begin_1 : decode cX9_begin 1 = .ok (.getfield 224, 3) := by decide +kernel
theorem dX9_begin_4 : decode cX9_begin 4 = .ok (.ifCond .eq 12, 3) := by decide +kernel
theorem dX9_begin_7 : decode cX9_begin 7 = .ok (.iload_n 1, 1) := by decide +kernel
theorem dX9_begin_8 : decode cX9_begin 8 = .ok (.ifCond .lt 8, 3) := by decide +kernel
theorem dX9_begin_11 : decode cX9_begin 11 = .ok (.iload_n 1, 1) := by decide +kernel
theorem dX9_begin_12 : decode cX9_begin 12 = .ok (.iconst 1, 1) := by decide +kernel
theorem dX9_begin_13 : decode cX9_begin 13 = .ok (.if_icmp .le 5, 3) := by decide +kernel
theorem dX9_begin_16 : decode cX9_begin 16 = .ok (.iconst 0, 1) := by decide +kernel
theorem dX9_begin_17 : decode cX9_begin 17 = .ok (.ireturn, 1) := by decide +kernel
theorem dX9_begin_18 : decode cX9_begin 18 = .ok (.aload_n 0, 1) := by decide +kernel
theorem dX9_begin_19 : decode cX9_begin 19 = .ok (.invokevirtual 300, 3) := by decide +kernel
theorem dX9_begin_22 : decode cX9_begin 22 = .ok (.aload_n 0, 1) := by decide +kernel
theorem dX9_begin_23 : decode cX9_begin 23 = .ok (.invokevirtual 338, 3) := by decide +kernel
theorem dX9_begin_26 : decode cX9_begin 26 = .ok (.aload_n 0, 1) := by decide +kernel
theorem dX9_begin_27 : decode cX9_begin 27 = .ok (.iload_n 1, 1) := by decide +kernel
theorem dX9_begin_28 : decode cX9_begin 28 = .ok (.putfield 84, 3) := by decide +kernel
theorem dX9_begin_31 : decode cX9_begin 31 = .ok (.aload_n 0, 1) := by decide +kernel
theorem dX9_begin_32 : decode cX9_begin 32 = .ok (.iconst 0, 1) := by decide +kernel
theorem dX9_begin_33 : decode cX9_begin 33 = .ok (.putfield 227, 3) := by decide +kernel
theorem dX9_begin_36 : decode cX9_begin 36 = .ok (.iconst 1, 1) := by decide +kernel
theorem dX9_begin_37 : decode cX9_begin 37 = .ok (.ireturn, 1) := by decide +kernel
theorem dX9_step_0 : decode cX9_step 0 = .ok (.aload_n 0, 1) := by decide +kernel
theorem dX9_step_1 : decode cX9_step 1 = .ok (.getfield 84, 3) := by decide +kernel
theorem dX9_step_4 : decode cX9_step 4 = .ok (.ifCond .ge 5, 3) := by decide +kernel
theorem dX9_step_7 : decode cX9_step 7 = .ok (.iconst 0, 1) := by decide +kernel
theorem dX9_step_8 : decode cX9_step 8 = .ok (.ireturn, 1) := by decide +kernel
theorem dX9_step_9 : decode cX9_step 9 = .ok (.aload_n 0, 1) := by decide +kernel
theorem dX9_step_10 : decode cX9_step 10 = .ok (.invokevirtual 341, 3) := by decide +kernel
theorem dX9_step_13 : decode cX9_step 13 = .ok (.aload_n 0, 1) := by decide +kernel
theorem dX9_step_14 : decode cX9_step 14 = .ok (.iconst 0, 1) := by decide +kernel
theorem dX9_step_15 : decode cX9_step 15 = .ok (.aload_n 0, 1) := by decide +kernel
theorem dX9_step_16 : decode cX9_step 16 = .ok (.getfield 84, 3) := by decide +kernel
theorem dX9_step_19 : decode cX9_step 19 = .ok (.iload_n 1, 1) := by decide +kernel
theorem dX9_step_20 : decode cX9_step 20 = .ok (.invokevirtual 310, 3) := by decide +kernel
theorem dX9_step_23 : decode cX9_step 23 = .ok (.ifCond .ne 5, 3) := by decide +kernel
theorem dX9_step_26 : decode cX9_step 26 = .ok (.iconst 0, 1) := by decide +kernel
theorem dX9_step_27 : decode cX9_step 27 = .ok (.ireturn, 1) := by decide +kernel
theorem dX9_step_28 : decode cX9_step 28 = .ok (.iconst 0, 1) := by decide +kernel
theorem dX9_step_29 : decode cX9_step 29 = .ok (.istore_n 2, 1) := by decide +kernel
theorem dX9_step_30 : decode cX9_step 30 = .ok (.iload_n 2, 1) := by decide +kernel
theorem dX9_step_31 : decode cX9_step 31 = .ok (.bipush 58, 2) := by decide +kernel
theorem dX9_step_33 : decode cX9_step 33 = .ok (.if_icmp .ge 29, 3) := by decide +kernel
theorem dX9_step_36 : decode cX9_step 36 = .ok (.aload_n 0, 1) := by decide +kernel
theorem dX9_step_37 : decode cX9_step 37 = .ok (.getfield 81, 3) := by decide +kernel
theorem dX9_step_40 : decode cX9_step 40 = .ok (.bipush 58, 2) := by decide +kernel
theorem dX9_step_42 : decode cX9_step 42 = .ok (.aload_n 0, 1) := by decide +kernel
theorem dX9_step_43 : decode cX9_step 43 = .ok (.getfield 227, 3) := by decide +kernel
theorem dX9_step_46 : decode cX9_step 46 = .ok (.imul, 1) := by decide +kernel
theorem dX9_step_47 : decode cX9_step 47 = .ok (.iload_n 2, 1) := by decide +kernel
theorem dX9_step_48 : decode cX9_step 48 = .ok (.iadd, 1) := by decide +kernel
theorem dX9_step_49 : decode cX9_step 49 = .ok (.aload_n 0, 1) := by decide +kernel
theorem dX9_step_50 : decode cX9_step 50 = .ok (.getfield 78, 3) := by decide +kernel
theorem dX9_step_53 : decode cX9_step 53 = .ok (.iload_n 2, 1) := by decide +kernel
theorem dX9_step_54 : decode cX9_step 54 = .ok (.iaload, 1) := by decide +kernel
theorem dX9_step_55 : decode cX9_step 55 = .ok (.iastore, 1) := by decide +kernel
theorem dX9_step_56 : decode cX9_step 56 = .ok (.iinc 2 1, 3) := by decide +kernel
theorem dX9_step_59 : decode cX9_step 59 = .ok (.goto (-29), 3) := by decide +kernel
theorem dX9_step_62 : decode cX9_step 62 = .ok (.aload_n 0, 1) := by decide +kernel
theorem dX9_step_63 : decode cX9_step 63 = .ok (.dup, 1) := by decide +kernel
theorem dX9_step_64 : decode cX9_step 64 = .ok (.getfield 227, 3) := by decide +kernel
theorem dX9_step_67 : decode cX9_step 67 = .ok (.iconst 1, 1) := by decide +kernel
theorem dX9_step_68 : decode cX9_step 68 = .ok (.iadd, 1) := by decide +kernel
theorem dX9_step_69 : decode cX9_step 69 = .ok (.putfield 227, 3) := by decide +kernel
theorem dX9_step_72 : decode cX9_step 72 = .ok (.aload_n 0, 1) := by decide +kernel
theorem dX9_step_73 : decode cX9_step 73 = .ok (.iconst 0, 1) := by decide +kernel
theorem dX9_step_74 : decode cX9_step 74 = .ok (.aload_n 0, 1) := by decide +kernel
theorem dX9_step_75 : decode cX9_step 75 = .ok (.getfield 84, 3) := by decide +kernel
theorem dX9_step_78 : decode cX9_step 78 = .ok (.iload_n 1, 1) := by decide +kernel
theorem dX9_step_79 : decode cX9_step 79 = .ok (.iconst 0, 1) := by decide +kernel
theorem dX9_step_80 : decode cX9_step 80 = .ok (.invokevirtual 313, 3) := by decide +kernel
theorem dX9_step_83 : decode cX9_step 83 = .ok (.aload_n 0, 1) := by decide +kernel
theorem dX9_step_84 : decode cX9_step 84 = .ok (.invokevirtual 338, 3) := by decide +kernel
theorem dX9_step_87 : decode cX9_step 87 = .ok (.iconst 1, 1) := by decide +kernel
theorem dX9_step_88 : decode cX9_step 88 = .ok (.ireturn, 1) := by decide +kernel
theorem dX9_undo_0 : decode cX9_undo 0 = .ok (.aload_n 0, 1) := by decide +kernel
theorem dX9_undo_1 : decode cX9_undo 1 = .ok (.getfield 84, 3) := by decide +kernel
theorem dX9_undo_4 : decode cX9_undo 4 = .ok (.ifCond .lt 10, 3) := by decide +kernel
theorem dX9_undo_7 : decode cX9_undo 7 = .ok (.aload_n 0, 1) := by decide +kernel
theorem dX9_undo_8 : decode cX9_undo 8 = .ok (.getfield 227, 3) := by decide +kernel
theorem dX9_undo_11 : decode cX9_undo 11 = .ok (.ifCond .ne 5, 3) := by decide +kernel
theorem dX9_undo_14 : decode cX9_undo 14 = .ok (.iconst 0, 1) := by decide +kernel
theorem dX9_undo_15 : decode cX9_undo 15 = .ok (.ireturn, 1) := by decide +kernel
theorem dX9_undo_16 : decode cX9_undo 16 = .ok (.aload_n 0, 1) := by decide +kernel
theorem dX9_undo_17 : decode cX9_undo 17 = .ok (.dup, 1) := by decide +kernel
theorem dX9_undo_18 : decode cX9_undo 18 = .ok (.getfield 227, 3) := by decide +kernel
theorem dX9_undo_21 : decode cX9_undo 21 = .ok (.iconst 1, 1) := by decide +kernel
theorem dX9_undo_22 : decode cX9_undo 22 = .ok (.isub, 1) := by decide +kernel
theorem dX9_undo_23 : decode cX9_undo 23 = .ok (.putfield 227, 3) := by decide +kernel
theorem dX9_undo_26 : decode cX9_undo 26 = .ok (.iconst 0, 1) := by decide +kernel
theorem dX9_undo_27 : decode cX9_undo 27 = .ok (.istore_n 1, 1) := by decide +kernel
theorem dX9_undo_28 : decode cX9_undo 28 = .ok (.iload_n 1, 1) := by decide +kernel
theorem dX9_undo_29 : decode cX9_undo 29 = .ok (.bipush 58, 2) := by decide +kernel
theorem dX9_undo_31 : decode cX9_undo 31 = .ok (.if_icmp .ge 29, 3) := by decide +kernel
theorem dX9_undo_34 : decode cX9_undo 34 = .ok (.aload_n 0, 1) := by decide +kernel
theorem dX9_undo_35 : decode cX9_undo 35 = .ok (.getfield 78, 3) := by decide +kernel
theorem dX9_undo_38 : decode cX9_undo 38 = .ok (.iload_n 1, 1) := by decide +kernel
theorem dX9_undo_39 : decode cX9_undo 39 = .ok (.aload_n 0, 1) := by decide +kernel
theorem dX9_undo_40 : decode cX9_undo 40 = .ok (.getfield 81, 3) := by decide +kernel
theorem dX9_undo_43 : decode cX9_undo 43 = .ok (.bipush 58, 2) := by decide +kernel
theorem dX9_undo_45 : decode cX9_undo 45 = .ok (.aload_n 0, 1) := by decide +kernel
theorem dX9_undo_46 : decode cX9_undo 46 = .ok (.getfield 227, 3) := by decide +kernel
theorem dX9_undo_49 : decode cX9_undo 49 = .ok (.imul, 1) := by decide +kernel
theorem dX9_undo_50 : decode cX9_undo 50 = .ok (.iload_n 1, 1) := by decide +kernel
theorem dX9_undo_51 : decode cX9_undo 51 = .ok (.iadd, 1) := by decide +kernel
theorem dX9_undo_52 : decode cX9_undo 52 = .ok (.iaload, 1) := by decide +kernel
theorem dX9_undo_53 : decode cX9_undo 53 = .ok (.iastore, 1) := by decide +kernel
theorem dX9_undo_54 : decode cX9_undo 54 = .ok (.iinc 1 1, 3) := by decide +kernel
theorem dX9_undo_57 : decode cX9_undo 57 = .ok (.goto (-29), 3) := by decide +kernel
theorem dX9_undo_60 : decode cX9_undo 60 = .ok (.iconst 1, 1) := by decide +kernel
theorem dX9_undo_61 : decode cX9_undo 61 = .ok (.ireturn, 1) := by decide +kernel
theorem dX9_isCore_0 : decode cX9_isCore 0 = .ok (.aload_n 0, 1) := by decide +kernel
theorem dX9_isCore_1 : decode cX9_isCore 1 = .ok (.getfield 84, 3) := by decide +kernel
theorem dX9_isCore_4 : decode cX9_isCore 4 = .ok (.ifCond .lt 21, 3) := by decide +kernel
theorem dX9_isCore_7 : decode cX9_isCore 7 = .ok (.iload_n 1, 1) := by decide +kernel
theorem dX9_isCore_8 : decode cX9_isCore 8 = .ok (.ifCond .lt 17, 3) := by decide +kernel
theorem dX9_isCore_11 : decode cX9_isCore 11 = .ok (.iload_n 1, 1) := by decide +kernel
theorem dX9_isCore_12 : decode cX9_isCore 12 = .ok (.aload_n 0, 1) := by decide +kernel
theorem dX9_isCore_13 : decode cX9_isCore 13 = .ok (.getfield 7, 3) := by decide +kernel
theorem dX9_isCore_16 : decode cX9_isCore 16 = .ok (.iconst 0, 1) := by decide +kernel
theorem dX9_isCore_17 : decode cX9_isCore 17 = .ok (.iaload, 1) := by decide +kernel
theorem dX9_isCore_18 : decode cX9_isCore 18 = .ok (.if_icmp .ge 7, 3) := by decide +kernel
theorem dX9_isCore_21 : decode cX9_isCore 21 = .ok (.iconst 1, 1) := by decide +kernel
theorem dX9_isCore_22 : decode cX9_isCore 22 = .ok (.goto 4, 3) := by decide +kernel
theorem dX9_isCore_25 : decode cX9_isCore 25 = .ok (.iconst 0, 1) := by decide +kernel
theorem dX9_isCore_26 : decode cX9_isCore 26 = .ok (.ireturn, 1) := by decide +kernel
set_option maxRecDepth 20000 in
theorem ggX9_register__X9_isCore : GoodIn wsX9_register_ wsX9_isCore := goodIn_r _ [6, 7, 8, 9, 10, 11, 12, 13, 14, 15, 16, 17, 18, 19, 20, 21, 22, 23, 24, 25, 26, 27, 28, 29, 30, 31, 32, 33, 34, 35, 36, 37, 38, 39, 40, 41, 42, 43, 44, 45, 46, 47, 48, 49, 50, 51, 52, 53, 54, 55, 56, 57, 58, 59, 60] (by decide +kernel) (by decide +kernel)
set_option maxRecDepth 20000 in
theorem gX9_register__X9_isCore : GoodIn wsX9_register_ (wsV RX9 344 RX9 yX9_isCore wsX9_isCore) := goodIn_app (goodIn_of _ (by decide +kernel)) ggX9_register__X9_isCore
theorem dX9_register__0 : decode cX9_register_ 0 = .ok (.aload_n 0, 1) := by decide +kernel
theorem dX9_register__1 : decode cX9_register_ 1 = .ok (.iload_n 1, 1) := by decide +kernel
theorem dX9_register__2 : decode cX9_register_ 2 = .ok (.invokevirtual 344, 3) := by decide +kernel
theorem dX9_register__5 : decode cX9_register_ 5 = .ok (.ifCond .eq 27, 3) := by decide +kernel
theorem dX9_register__8 : decode cX9_register_ 8 = .ok (.iload_n 2, 1) := by decide +kernel
theorem dX9_register__9 : decode cX9_register_ 9 = .ok (.ifCond .lt 23, 3) := by decide +kernel
theorem dX9_register__12 : decode cX9_register_ 12 = .ok (.iload_n 2, 1) := by decide +kernel
theorem dX9_register__13 : decode cX9_register_ 13 = .ok (.iconst 3, 1) := by decide +kernel
theorem dX9_register__14 : decode cX9_register_ 14 = .ok (.if_icmp .ge 18, 3) := by decide +kernel
theorem dX9_register__17 : decode cX9_register_ 17 = .ok (.aload_n 0, 1) := by decide +kernel
theorem dX9_register__18 : decode cX9_register_ 18 = .ok (.getfield 78, 3) := by decide +kernel
theorem dX9_register__21 : decode cX9_register_ 21 = .ok (.iconst 3, 1) := by decide +kernel
theorem dX9_register__22 : decode cX9_register_ 22 = .ok (.iconst 3, 1) := by decide +kernel
theorem dX9_register__23 : decode cX9_register_ 23 = .ok (.iload_n 1, 1) := by decide +kernel
theorem dX9_register__24 : decode cX9_register_ 24 = .ok (.imul, 1) := by decide +kernel
theorem dX9_register__25 : decode cX9_register_ 25 = .ok (.iadd, 1) := by decide +kernel
theorem dX9_register__26 : decode cX9_register_ 26 = .ok (.iload_n 2, 1) := by decide +kernel
theorem dX9_register__27 : decode cX9_register_ 27 = .ok (.iadd, 1) := by decide +kernel
theorem dX9_register__28 : decode cX9_register_ 28 = .ok (.iaload, 1) := by decide +kernel
theorem dX9_register__29 : decode cX9_register_ 29 = .ok (.goto 4, 3) := by decide +kernel
theorem dX9_register__32 : decode cX9_register_ 32 = .ok (.iconst 0, 1) := by decide +kernel
theorem dX9_register__33 : decode cX9_register_ 33 = .ok (.ireturn, 1) := by decide +kernel
theorem dX9_memory_0 : decode cX9_memory 0 = .ok (.aload_n 0, 1) := by decide +kernel
theorem dX9_memory_1 : decode cX9_memory 1 = .ok (.getfield 84, 3) := by decide +kernel
theorem dX9_memory_4 : decode cX9_memory 4 = .ok (.ifCond .lt 24, 3) := by decide +kernel
theorem dX9_memory_7 : decode cX9_memory 7 = .ok (.iload_n 1, 1) := by decide +kernel
theorem dX9_memory_8 : decode cX9_memory 8 = .ok (.ifCond .lt 20, 3) := by decide +kernel
theorem dX9_memory_11 : decode cX9_memory 11 = .ok (.iload_n 1, 1) := by decide +kernel
theorem dX9_memory_12 : decode cX9_memory 12 = .ok (.iconst 4, 1) := by decide +kernel
theorem dX9_memory_13 : decode cX9_memory 13 = .ok (.if_icmp .ge 15, 3) := by decide +kernel
theorem dX9_memory_16 : decode cX9_memory 16 = .ok (.aload_n 0, 1) := by decide +kernel
theorem dX9_memory_17 : decode cX9_memory 17 = .ok (.getfield 78, 3) := by decide +kernel
theorem dX9_memory_20 : decode cX9_memory 20 = .ok (.bipush 12, 2) := by decide +kernel
theorem dX9_memory_22 : decode cX9_memory 22 = .ok (.iload_n 1, 1) := by decide +kernel
theorem dX9_memory_23 : decode cX9_memory 23 = .ok (.iadd, 1) := by decide +kernel
theorem dX9_memory_24 : decode cX9_memory 24 = .ok (.iaload, 1) := by decide +kernel
theorem dX9_memory_25 : decode cX9_memory 25 = .ok (.goto 4, 3) := by decide +kernel
theorem dX9_memory_28 : decode cX9_memory 28 = .ok (.iconst 0, 1) := by decide +kernel
theorem dX9_memory_29 : decode cX9_memory 29 = .ok (.ireturn, 1) := by decide +kernel
set_option maxRecDepth 20000 in
theorem ggX9_next_X9_isCore : GoodIn wsX9_next wsX9_isCore := goodIn_r _ [6, 7, 8, 9, 10, 11, 12, 13, 14, 15, 16, 17, 18, 19, 20, 21, 22, 23, 24, 25, 26, 27, 28, 29, 30, 31, 32, 33, 34, 35, 36, 37, 38, 39, 40, 41, 42, 43, 44, 45, 46, 47, 48, 49, 50, 51, 52, 53, 54, 55, 56, 57, 58, 59, 60] (by decide +kernel) (by decide +kernel)
set_option maxRecDepth 20000 in
theorem gX9_next_X9_isCore : GoodIn wsX9_next (wsV RX9 344 RX9 yX9_isCore wsX9_isCore) := goodIn_app (goodIn_of _ (by decide +kernel)) ggX9_next_X9_isCore
theorem dX9_next_0 : decode cX9_next 0 = .ok (.aload_n 0, 1) := by decide +kernel
theorem dX9_next_1 : decode cX9_next 1 = .ok (.iload_n 1, 1) := by decide +kernel
theorem dX9_next_2 : decode cX9_next 2 = .ok (.invokevirtual 344, 3) := by decide +kernel
theorem dX9_next_5 : decode cX9_next 5 = .ok (.ifCond .eq 12, 3) := by decide +kernel
theorem dX9_next_8 : decode cX9_next 8 = .ok (.aload_n 0, 1) := by decide +kernel
theorem dX9_next_9 : decode cX9_next 9 = .ok (.getfield 78, 3) := by decide +kernel
theorem dX9_next_12 : decode cX9_next 12 = .ok (.iload_n 1, 1) := by decide +kernel
theorem dX9_next_13 : decode cX9_next 13 = .ok (.iaload, 1) := by decide +kernel
theorem dX9_next_14 : decode cX9_next 14 = .ok (.goto 4, 3) := by decide +kernel
theorem dX9_next_17 : decode cX9_next 17 = .ok (.iconst (-1), 1) := by decide +kernel
theorem dX9_next_18 : decode cX9_next 18 = .ok (.ireturn, 1) := by decide +kernel
set_option maxRecDepth 20000 in
theorem ggX9_store_X9_isCore : GoodIn wsX9_store wsX9_isCore := goodIn_r _ [6, 7, 8, 12, 13, 14, 15, 16, 17, 18, 19, 20, 21, 22, 23, 24, 25, 26, 27, 28, 29, 30, 31, 32, 33, 34, 35, 36, 37, 38, 39, 40, 41, 42, 43, 44, 45, 46, 47, 48, 49, 50, 51, 52, 53, 54, 55, 56, 57, 58, 59, 60, 61, 62, 63] (by decide +kernel) (by decide +kernel)
set_option maxRecDepth 20000 in
theorem gX9_store_X9_isCore : GoodIn wsX9_store (wsV RX9 344 RX9 yX9_isCore wsX9_isCore) := goodIn_app (goodIn_of _ (by decide +kernel)) ggX9_store_X9_isCore
theorem dX9_store_0 : decode cX9_store 0 = .ok (.aload_n 0, 1) := by decide +kernel
theorem dX9_store_1 : decode cX9_store 1 = .ok (.iload_n 1, 1) := by decide +kernel
theorem dX9_store_2 : decode cX9_store 2 = .ok (.invokevirtual 344, 3) := by decide +kernel
theorem dX9_store_5 : decode cX9_store 5 = .ok (.ifCond .eq 29, 3) := by decide +kernel
theorem dX9_store_8 : decode cX9_store 8 = .ok (.iload_n 2, 1) := by decide +kernel
theorem dX9_store_9 : decode cX9_store 9 = .ok (.ifCond .lt 25, 3) := by decide +kernel
theorem dX9_store_12 : decode cX9_store 12 = .ok (.iload_n 2, 1) := by decide +kernel
theorem dX9_store_13 : decode cX9_store 13 = .ok (.aload_n 0, 1) := by decide +kernel
theorem dX9_store_14 : decode cX9_store 14 = .ok (.getfield 78, 3) := by decide +kernel
theorem dX9_store_17 : decode cX9_store 17 = .ok (.iload_n 1, 1) := by decide +kernel
theorem dX9_store_18 : decode cX9_store 18 = .ok (.invokestatic 267, 3) := by decide +kernel
theorem dX9_store_21 : decode cX9_store 21 = .ok (.iaload, 1) := by decide +kernel
theorem dX9_store_22 : decode cX9_store 22 = .ok (.if_icmp .ge 12, 3) := by decide +kernel
theorem dX9_store_25 : decode cX9_store 25 = .ok (.iload_n 3, 1) := by decide +kernel
theorem dX9_store_26 : decode cX9_store 26 = .ok (.ifCond .lt 8, 3) := by decide +kernel
theorem dX9_store_29 : decode cX9_store 29 = .ok (.iload_n 3, 1) := by decide +kernel
theorem dX9_store_30 : decode cX9_store 30 = .ok (.iconst 1, 1) := by decide +kernel
theorem dX9_store_31 : decode cX9_store 31 = .ok (.if_icmp .le 5, 3) := by decide +kernel
theorem dX9_store_34 : decode cX9_store 34 = .ok (.iconst (-1), 1) := by decide +kernel
theorem dX9_store_35 : decode cX9_store 35 = .ok (.ireturn, 1) := by decide +kernel
theorem dX9_store_36 : decode cX9_store 36 = .ok (.aload_n 0, 1) := by decide +kernel
theorem dX9_store_37 : decode cX9_store 37 = .ok (.getfield 78, 3) := by decide +kernel
theorem dX9_store_40 : decode cX9_store 40 = .ok (.iload_n 1, 1) := by decide +kernel
theorem dX9_store_41 : decode cX9_store 41 = .ok (.invokestatic 267, 3) := by decide +kernel
theorem dX9_store_44 : decode cX9_store 44 = .ok (.iconst 1, 1) := by decide +kernel
theorem dX9_store_45 : decode cX9_store 45 = .ok (.iadd, 1) := by decide +kernel
theorem dX9_store_46 : decode cX9_store 46 = .ok (.iconst 2, 1) := by decide +kernel
theorem dX9_store_47 : decode cX9_store 47 = .ok (.iload_n 2, 1) := by decide +kernel
theorem dX9_store_48 : decode cX9_store 48 = .ok (.imul, 1) := by decide +kernel
theorem dX9_store_49 : decode cX9_store 49 = .ok (.iadd, 1) := by decide +kernel
theorem dX9_store_50 : decode cX9_store 50 = .ok (.iload_n 3, 1) := by decide +kernel
theorem dX9_store_51 : decode cX9_store 51 = .ok (.iadd, 1) := by decide +kernel
theorem dX9_store_52 : decode cX9_store 52 = .ok (.iaload, 1) := by decide +kernel
theorem dX9_store_53 : decode cX9_store 53 = .ok (.ireturn, 1) := by decide +kernel
theorem dX9_outcomes_0 : decode cX9_outcomes 0 = .ok (.aload_n 0, 1) := by decide +kernel
theorem dX9_outcomes_1 : decode cX9_outcomes 1 = .ok (.getfield 224, 3) := by decide +kernel
theorem dX9_outcomes_4 : decode cX9_outcomes 4 = .ok (.ifCond .eq 12, 3) := by decide +kernel
theorem dX9_outcomes_7 : decode cX9_outcomes 7 = .ok (.iload_n 1, 1) := by decide +kernel
theorem dX9_outcomes_8 : decode cX9_outcomes 8 = .ok (.ifCond .lt 8, 3) := by decide +kernel
theorem dX9_outcomes_11 : decode cX9_outcomes 11 = .ok (.iload_n 1, 1) := by decide +kernel
theorem dX9_outcomes_12 : decode cX9_outcomes 12 = .ok (.iconst 1, 1) := by decide +kernel
theorem dX9_outcomes_13 : decode cX9_outcomes 13 = .ok (.if_icmp .le 5, 3) := by decide +kernel
theorem dX9_outcomes_16 : decode cX9_outcomes 16 = .ok (.iconst (-1), 1) := by decide +kernel
theorem dX9_outcomes_17 : decode cX9_outcomes 17 = .ok (.ireturn, 1) := by decide +kernel
theorem dX9_outcomes_18 : decode cX9_outcomes 18 = .ok (.aload_n 0, 1) := by decide +kernel
theorem dX9_outcomes_19 : decode cX9_outcomes 19 = .ok (.iload_n 1, 1) := by decide +kernel
theorem dX9_outcomes_20 : decode cX9_outcomes 20 = .ok (.invokevirtual 347, 3) := by decide +kernel
theorem dX9_outcomes_23 : decode cX9_outcomes 23 = .ok (.ifCond .eq 12, 3) := by decide +kernel
theorem dX9_outcomes_26 : decode cX9_outcomes 26 = .ok (.aload_n 0, 1) := by decide +kernel
theorem dX9_outcomes_27 : decode cX9_outcomes 27 = .ok (.getfield 72, 3) := by decide +kernel
theorem dX9_outcomes_30 : decode cX9_outcomes 30 = .ok (.iload_n 1, 1) := by decide +kernel
theorem dX9_outcomes_31 : decode cX9_outcomes 31 = .ok (.iaload, 1) := by decide +kernel
theorem dX9_outcomes_32 : decode cX9_outcomes 32 = .ok (.goto 5, 3) := by decide +kernel
theorem dX9_outcomes_35 : decode cX9_outcomes 35 = .ok (.bipush (-2), 2) := by decide +kernel
theorem dX9_outcomes_37 : decode cX9_outcomes 37 = .ok (.ireturn, 1) := by decide +kernel
theorem dX9_isOutcome_0 : decode cX9_isOutcome 0 = .ok (.aload_n 0, 1) := by decide +kernel
theorem dX9_isOutcome_1 : decode cX9_isOutcome 1 = .ok (.getfield 224, 3) := by decide +kernel
theorem dX9_isOutcome_4 : decode cX9_isOutcome 4 = .ok (.ifCond .eq 38, 3) := by decide +kernel
theorem dX9_isOutcome_7 : decode cX9_isOutcome 7 = .ok (.iload_n 1, 1) := by decide +kernel
theorem dX9_isOutcome_8 : decode cX9_isOutcome 8 = .ok (.ifCond .lt 34, 3) := by decide +kernel
theorem dX9_isOutcome_11 : decode cX9_isOutcome 11 = .ok (.iload_n 1, 1) := by decide +kernel
theorem dX9_isOutcome_12 : decode cX9_isOutcome 12 = .ok (.iconst 1, 1) := by decide +kernel
theorem dX9_isOutcome_13 : decode cX9_isOutcome 13 = .ok (.if_icmp .gt 29, 3) := by decide +kernel
theorem dX9_isOutcome_16 : decode cX9_isOutcome 16 = .ok (.iload_n 2, 1) := by decide +kernel
theorem dX9_isOutcome_17 : decode cX9_isOutcome 17 = .ok (.ifCond .lt 25, 3) := by decide +kernel
theorem dX9_isOutcome_20 : decode cX9_isOutcome 20 = .ok (.aload_n 0, 1) := by decide +kernel
theorem dX9_isOutcome_21 : decode cX9_isOutcome 21 = .ok (.iload_n 1, 1) := by decide +kernel
theorem dX9_isOutcome_22 : decode cX9_isOutcome 22 = .ok (.invokevirtual 347, 3) := by decide +kernel
theorem dX9_isOutcome_25 : decode cX9_isOutcome 25 = .ok (.ifCond .eq 17, 3) := by decide +kernel
theorem dX9_isOutcome_28 : decode cX9_isOutcome 28 = .ok (.iload_n 2, 1) := by decide +kernel
theorem dX9_isOutcome_29 : decode cX9_isOutcome 29 = .ok (.aload_n 0, 1) := by decide +kernel
theorem dX9_isOutcome_30 : decode cX9_isOutcome 30 = .ok (.getfield 72, 3) := by decide +kernel
theorem dX9_isOutcome_33 : decode cX9_isOutcome 33 = .ok (.iload_n 1, 1) := by decide +kernel
theorem dX9_isOutcome_34 : decode cX9_isOutcome 34 = .ok (.iaload, 1) := by decide +kernel
theorem dX9_isOutcome_35 : decode cX9_isOutcome 35 = .ok (.if_icmp .ge 7, 3) := by decide +kernel
theorem dX9_isOutcome_38 : decode cX9_isOutcome 38 = .ok (.iconst 1, 1) := by decide +kernel
theorem dX9_isOutcome_39 : decode cX9_isOutcome 39 = .ok (.goto 4, 3) := by decide +kernel
theorem dX9_isOutcome_42 : decode cX9_isOutcome 42 = .ok (.iconst 0, 1) := by decide +kernel
theorem dX9_isOutcome_43 : decode cX9_isOutcome 43 = .ok (.ireturn, 1) := by decide +kernel
set_option maxRecDepth 20000 in
theorem ggX9_outcome_X9_isOutcome : GoodIn wsX9_outcome wsX9_isOutcome := goodIn_r _ [6, 7, 8, 9, 10, 11, 5, 12, 13, 14, 15, 16, 17, 18, 19, 20, 21, 1, 22, 23, 24, 25, 26, 27, 28, 29, 30, 31, 32, 33, 34, 35, 36, 37, 38, 39, 40, 41, 42, 43, 44, 45, 46, 47, 48, 49, 50, 51, 52, 53, 54, 55, 56, 57, 58, 59, 60, 61, 62, 63, 64, 65, 66, 67, 68, 69, 70, 71, 72, 73, 74, 75, 76, 77, 78, 79, 80, 81, 82, 83, 84, 85, 86, 87, 88, 89, 90, 91, 92, 93, 94, 95, 96, 97, 98, 99, 100, 101, 102, 103, 104, 105, 106, 107, 108, 109, 110, 111, 112, 113, 114, 115, 116, 117, 118, 119, 120, 121, 122, 123, 124, 125, 126, 127, 128, 129, 130, 131, 132, 133, 134, 135, 136, 137, 138, 139, 140, 141, 142, 143, 144, 145, 146, 147, 148, 149, 150, 151, 152, 153, 154, 155, 156, 157, 158, 159, 160] (by decide +kernel) (by decide +kernel)
set_option maxRecDepth 20000 in
theorem gX9_outcome_X9_isOutcome : GoodIn wsX9_outcome (wsV RX9 350 RX9 yX9_isOutcome wsX9_isOutcome) := goodIn_app (goodIn_of _ (by decide +kernel)) ggX9_outcome_X9_isOutcome
theorem dX9_outcome_0 : decode cX9_outcome 0 = .ok (.aload_n 0, 1) := by decide +kernel
theorem dX9_outcome_1 : decode cX9_outcome 1 = .ok (.iload_n 1, 1) := by decide +kernel
theorem dX9_outcome_2 : decode cX9_outcome 2 = .ok (.iload_n 2, 1) := by decide +kernel
theorem dX9_outcome_3 : decode cX9_outcome 3 = .ok (.invokevirtual 350, 3) := by decide +kernel
theorem dX9_outcome_6 : decode cX9_outcome 6 = .ok (.ifCond .eq 34, 3) := by decide +kernel
theorem dX9_outcome_9 : decode cX9_outcome 9 = .ok (.iload_n 3, 1) := by decide +kernel
theorem dX9_outcome_10 : decode cX9_outcome 10 = .ok (.ifCond .lt 30, 3) := by decide +kernel
theorem dX9_outcome_13 : decode cX9_outcome 13 = .ok (.iload_n 3, 1) := by decide +kernel
theorem dX9_outcome_14 : decode cX9_outcome 14 = .ok (.bipush 13, 2) := by decide +kernel
theorem dX9_outcome_16 : decode cX9_outcome 16 = .ok (.if_icmp .ge 24, 3) := by decide +kernel
theorem dX9_outcome_19 : decode cX9_outcome 19 = .ok (.aload_n 0, 1) := by decide +kernel
theorem dX9_outcome_20 : decode cX9_outcome 20 = .ok (.iload_n 1, 1) := by decide +kernel
theorem dX9_outcome_21 : decode cX9_outcome 21 = .ok (.aload_n 0, 1) := by decide +kernel
theorem dX9_outcome_22 : decode cX9_outcome 22 = .ok (.getfield 69, 3) := by decide +kernel
theorem dX9_outcome_25 : decode cX9_outcome 25 = .ok (.sipush 3000, 3) := by decide +kernel
theorem dX9_outcome_28 : decode cX9_outcome 28 = .ok (.iload_n 1, 1) := by decide +kernel
theorem dX9_outcome_29 : decode cX9_outcome 29 = .ok (.imul, 1) := by decide +kernel
theorem dX9_outcome_30 : decode cX9_outcome 30 = .ok (.iload_n 2, 1) := by decide +kernel
theorem dX9_outcome_31 : decode cX9_outcome 31 = .ok (.iadd, 1) := by decide +kernel
theorem dX9_outcome_32 : decode cX9_outcome 32 = .ok (.iaload, 1) := by decide +kernel
theorem dX9_outcome_33 : decode cX9_outcome 33 = .ok (.iload_n 3, 1) := by decide +kernel
theorem dX9_outcome_34 : decode cX9_outcome 34 = .ok (.invokevirtual 324, 3) := by decide +kernel
theorem dX9_outcome_37 : decode cX9_outcome 37 = .ok (.goto 4, 3) := by decide +kernel
theorem dX9_outcome_40 : decode cX9_outcome 40 = .ok (.iconst 0, 1) := by decide +kernel
theorem dX9_outcome_41 : decode cX9_outcome 41 = .ok (.ireturn, 1) := by decide +kernel
set_option maxRecDepth 20000 in
theorem ggX9_schedule_X9_isOutcome : GoodIn wsX9_schedule wsX9_isOutcome := goodIn_r _ [6, 7, 8, 9, 10, 11, 5, 12, 13, 14, 15, 16, 17, 18, 19, 20, 21, 1, 22, 23, 24, 25, 26, 27, 28, 29, 30, 31, 32, 33, 34, 35, 36, 37, 38, 39, 40, 41, 42, 43, 44, 45, 46, 47, 48, 49, 50, 51, 52, 53, 54, 55, 56, 57, 58, 59, 60, 61, 62, 63, 64, 65, 66, 67, 68, 69, 70, 71, 72, 73, 74, 75, 76, 77, 78, 79, 80, 81, 82, 83, 84, 85, 86, 87, 88, 89, 90, 91, 92, 93, 94, 95, 96, 97, 98, 99, 100, 101, 102, 103, 104, 105, 106, 107, 108, 113, 114, 115, 116, 117, 118, 119, 120, 121, 122, 123, 124, 125, 126, 127, 128, 129, 130, 131, 132, 133, 134, 135, 136, 137, 138, 139, 140, 141, 142, 143, 144, 145, 146, 147, 148, 149, 150, 151, 152, 153, 154, 155, 156, 157, 158, 159, 160, 161, 162, 163, 164] (by decide +kernel) (by decide +kernel)
set_option maxRecDepth 20000 in
theorem gX9_schedule_X9_isOutcome : GoodIn wsX9_schedule (wsV RX9 350 RX9 yX9_isOutcome wsX9_isOutcome) := goodIn_app (goodIn_of _ (by decide +kernel)) ggX9_schedule_X9_isOutcome
theorem dX9_schedule_0 : decode cX9_schedule 0 = .ok (.aload_n 0, 1) := by decide +kernel
theorem dX9_schedule_1 : decode cX9_schedule 1 = .ok (.iload_n 1, 1) := by decide +kernel
theorem dX9_schedule_2 : decode cX9_schedule 2 = .ok (.iload_n 2, 1) := by decide +kernel
theorem dX9_schedule_3 : decode cX9_schedule 3 = .ok (.invokevirtual 350, 3) := by decide +kernel
theorem dX9_schedule_6 : decode cX9_schedule 6 = .ok (.ifCond .eq 24, 3) := by decide +kernel
theorem dX9_schedule_9 : decode cX9_schedule 9 = .ok (.aload_n 0, 1) := by decide +kernel
theorem dX9_schedule_10 : decode cX9_schedule 10 = .ok (.iload_n 1, 1) := by decide +kernel
theorem dX9_schedule_11 : decode cX9_schedule 11 = .ok (.aload_n 0, 1) := by decide +kernel
theorem dX9_schedule_12 : decode cX9_schedule 12 = .ok (.getfield 69, 3) := by decide +kernel
theorem dX9_schedule_15 : decode cX9_schedule 15 = .ok (.sipush 3000, 3) := by decide +kernel
theorem dX9_schedule_18 : decode cX9_schedule 18 = .ok (.iload_n 1, 1) := by decide +kernel
theorem dX9_schedule_19 : decode cX9_schedule 19 = .ok (.imul, 1) := by decide +kernel
theorem dX9_schedule_20 : decode cX9_schedule 20 = .ok (.iload_n 2, 1) := by decide +kernel
theorem dX9_schedule_21 : decode cX9_schedule 21 = .ok (.iadd, 1) := by decide +kernel
theorem dX9_schedule_22 : decode cX9_schedule 22 = .ok (.iaload, 1) := by decide +kernel
theorem dX9_schedule_23 : decode cX9_schedule 23 = .ok (.iload_n 3, 1) := by decide +kernel
theorem dX9_schedule_24 : decode cX9_schedule 24 = .ok (.invokevirtual 353, 3) := by decide +kernel
theorem dX9_schedule_27 : decode cX9_schedule 27 = .ok (.goto 4, 3) := by decide +kernel
theorem dX9_schedule_30 : decode cX9_schedule 30 = .ok (.iconst (-1), 1) := by decide +kernel
theorem dX9_schedule_31 : decode cX9_schedule 31 = .ok (.ireturn, 1) := by decide +kernel
theorem dX9_more_0 : decode cX9_more 0 = .ok (.aload_n 0, 1) := by decide +kernel
theorem dX9_more_1 : decode cX9_more 1 = .ok (.getfield 224, 3) := by decide +kernel
theorem dX9_more_4 : decode cX9_more 4 = .ok (.ifCond .ne 5, 3) := by decide +kernel
theorem dX9_more_7 : decode cX9_more 7 = .ok (.iconst (-1), 1) := by decide +kernel
theorem dX9_more_8 : decode cX9_more 8 = .ok (.ireturn, 1) := by decide +kernel
theorem dX9_more_9 : decode cX9_more 9 = .ok (.aload_n 0, 1) := by decide +kernel
theorem dX9_more_10 : decode cX9_more 10 = .ok (.iconst 0, 1) := by decide +kernel
theorem dX9_more_11 : decode cX9_more 11 = .ok (.invokevirtual 347, 3) := by decide +kernel
theorem dX9_more_14 : decode cX9_more 14 = .ok (.istore_n 2, 1) := by decide +kernel
theorem dX9_more_15 : decode cX9_more 15 = .ok (.aload_n 0, 1) := by decide +kernel
theorem dX9_more_16 : decode cX9_more 16 = .ok (.iconst 1, 1) := by decide +kernel
theorem dX9_more_17 : decode cX9_more 17 = .ok (.invokevirtual 347, 3) := by decide +kernel
theorem dX9_more_20 : decode cX9_more 20 = .ok (.ifCond .eq 11, 3) := by decide +kernel
theorem dX9_more_23 : decode cX9_more 23 = .ok (.iload_n 2, 1) := by decide +kernel
theorem dX9_more_24 : decode cX9_more 24 = .ok (.ifCond .eq 7, 3) := by decide +kernel
theorem dX9_more_27 : decode cX9_more 27 = .ok (.iconst 1, 1) := by decide +kernel
theorem dX9_more_28 : decode cX9_more 28 = .ok (.goto 4, 3) := by decide +kernel
theorem dX9_more_31 : decode cX9_more 31 = .ok (.iconst 0, 1) := by decide +kernel
theorem dX9_more_32 : decode cX9_more 32 = .ok (.istore_n 2, 1) := by decide +kernel
theorem dX9_more_33 : decode cX9_more 33 = .ok (.iload_n 2, 1) := by decide +kernel
theorem dX9_more_34 : decode cX9_more 34 = .ok (.ifCond .ne 6, 3) := by decide +kernel
theorem dX9_more_37 : decode cX9_more 37 = .ok (.bipush (-2), 2) := by decide +kernel
theorem dX9_more_39 : decode cX9_more 39 = .ok (.ireturn, 1) := by decide +kernel
theorem dX9_more_40 : decode cX9_more 40 = .ok (.iconst 0, 1) := by decide +kernel
theorem dX9_more_41 : decode cX9_more 41 = .ok (.istore_n 3, 1) := by decide +kernel
theorem dX9_more_42 : decode cX9_more 42 = .ok (.iconst 0, 1) := by decide +kernel
theorem dX9_more_43 : decode cX9_more 43 = .ok (.istore 4, 2) := by decide +kernel
theorem dX9_more_45 : decode cX9_more 45 = .ok (.iload 4, 2) := by decide +kernel
theorem dX9_more_47 : decode cX9_more 47 = .ok (.aload_n 0, 1) := by decide +kernel
theorem dX9_more_48 : decode cX9_more 48 = .ok (.getfield 72, 3) := by decide +kernel
theorem dX9_more_51 : decode cX9_more 51 = .ok (.iconst 1, 1) := by decide +kernel
theorem dX9_more_52 : decode cX9_more 52 = .ok (.iaload, 1) := by decide +kernel
theorem dX9_more_53 : decode cX9_more 53 = .ok (.if_icmp .ge 29, 3) := by decide +kernel
theorem dX9_more_56 : decode cX9_more 56 = .ok (.aload_n 0, 1) := by decide +kernel
theorem dX9_more_57 : decode cX9_more 57 = .ok (.iload 4, 2) := by decide +kernel
theorem dX9_more_59 : decode cX9_more 59 = .ok (.invokevirtual 356, 3) := by decide +kernel
theorem dX9_more_62 : decode cX9_more 62 = .ok (.ifCond .ne 14, 3) := by decide +kernel
theorem dX9_more_65 : decode cX9_more 65 = .ok (.iload_n 3, 1) := by decide +kernel
theorem dX9_more_66 : decode cX9_more 66 = .ok (.iload_n 1, 1) := by decide +kernel
theorem dX9_more_67 : decode cX9_more 67 = .ok (.if_icmp .ne 6, 3) := by decide +kernel
theorem dX9_more_70 : decode cX9_more 70 = .ok (.iload 4, 2) := by decide +kernel
theorem dX9_more_72 : decode cX9_more 72 = .ok (.ireturn, 1) := by decide +kernel
theorem dX9_more_73 : decode cX9_more 73 = .ok (.iinc 3 1, 3) := by decide +kernel
theorem dX9_more_76 : decode cX9_more 76 = .ok (.iinc 4 1, 3) := by decide +kernel
theorem dX9_more_79 : decode cX9_more 79 = .ok (.goto (-34), 3) := by decide +kernel
theorem dX9_more_82 : decode cX9_more 82 = .ok (.iconst (-1), 1) := by decide +kernel
theorem dX9_more_83 : decode cX9_more 83 = .ok (.ireturn, 1) := by decide +kernel
theorem dX9_race_0 : decode cX9_race 0 = .ok (.aload_n 0, 1) := by decide +kernel
theorem dX9_race_1 : decode cX9_race 1 = .ok (.getfield 224, 3) := by decide +kernel
theorem dX9_race_4 : decode cX9_race 4 = .ok (.ifCond .ne 5, 3) := by decide +kernel
theorem dX9_race_7 : decode cX9_race 7 = .ok (.iconst (-1), 1) := by decide +kernel
theorem dX9_race_8 : decode cX9_race 8 = .ok (.ireturn, 1) := by decide +kernel
theorem dX9_race_9 : decode cX9_race 9 = .ok (.aload_n 0, 1) := by decide +kernel
theorem dX9_race_10 : decode cX9_race 10 = .ok (.getfield 98, 3) := by decide +kernel
theorem dX9_race_13 : decode cX9_race 13 = .ok (.iconst (-1), 1) := by decide +kernel
theorem dX9_race_14 : decode cX9_race 14 = .ok (.if_icmp .eq 8, 3) := by decide +kernel
theorem dX9_race_17 : decode cX9_race 17 = .ok (.aload_n 0, 1) := by decide +kernel
theorem dX9_race_18 : decode cX9_race 18 = .ok (.getfield 98, 3) := by decide +kernel
theorem dX9_race_21 : decode cX9_race 21 = .ok (.ireturn, 1) := by decide +kernel
theorem dX9_race_22 : decode cX9_race 22 = .ok (.aload_n 0, 1) := by decide +kernel
theorem dX9_race_23 : decode cX9_race 23 = .ok (.iconst 2, 1) := by decide +kernel
theorem dX9_race_24 : decode cX9_race 24 = .ok (.iconst 0, 1) := by decide +kernel
theorem dX9_race_25 : decode cX9_race 25 = .ok (.iconst 0, 1) := by decide +kernel
theorem dX9_race_26 : decode cX9_race 26 = .ok (.iconst 1, 1) := by decide +kernel
theorem dX9_race_27 : decode cX9_race 27 = .ok (.invokevirtual 335, 3) := by decide +kernel
theorem dX9_race_30 : decode cX9_race 30 = .ok (.aload_n 0, 1) := by decide +kernel
theorem dX9_race_31 : decode cX9_race 31 = .ok (.aload_n 0, 1) := by decide +kernel
theorem dX9_race_32 : decode cX9_race 32 = .ok (.getfield 62, 3) := by decide +kernel
theorem dX9_race_35 : decode cX9_race 35 = .ok (.iconst 2, 1) := by decide +kernel
theorem dX9_race_36 : decode cX9_race 36 = .ok (.baload, 1) := by decide +kernel
theorem dX9_race_37 : decode cX9_race 37 = .ok (.ifCond .eq 8, 3) := by decide +kernel
theorem dX9_race_40 : decode cX9_race 40 = .ok (.bipush (-2), 2) := by decide +kernel
theorem dX9_race_42 : decode cX9_race 42 = .ok (.goto 4, 3) := by decide +kernel
theorem dX9_race_45 : decode cX9_race 45 = .ok (.iconst 0, 1) := by decide +kernel
theorem dX9_race_46 : decode cX9_race 46 = .ok (.putfield 98, 3) := by decide +kernel
theorem dX9_race_49 : decode cX9_race 49 = .ok (.iconst 0, 1) := by decide +kernel
theorem dX9_race_50 : decode cX9_race 50 = .ok (.istore_n 1, 1) := by decide +kernel
theorem dX9_race_51 : decode cX9_race 51 = .ok (.iload_n 1, 1) := by decide +kernel
theorem dX9_race_52 : decode cX9_race 52 = .ok (.aload_n 0, 1) := by decide +kernel
theorem dX9_race_53 : decode cX9_race 53 = .ok (.getfield 59, 3) := by decide +kernel
theorem dX9_race_56 : decode cX9_race 56 = .ok (.iconst 2, 1) := by decide +kernel
theorem dX9_race_57 : decode cX9_race 57 = .ok (.iaload, 1) := by decide +kernel
theorem dX9_race_58 : decode cX9_race 58 = .ok (.if_icmp .ge 79, 3) := by decide +kernel
theorem dX9_race_61 : decode cX9_race 61 = .ok (.aload_n 0, 1) := by decide +kernel
theorem dX9_race_62 : decode cX9_race 62 = .ok (.getfield 98, 3) := by decide +kernel
theorem dX9_race_65 : decode cX9_race 65 = .ok (.ifCond .ne 72, 3) := by decide +kernel
theorem dX9_race_68 : decode cX9_race 68 = .ok (.aload_n 0, 1) := by decide +kernel
theorem dX9_race_69 : decode cX9_race 69 = .ok (.iload_n 1, 1) := by decide +kernel
theorem dX9_race_70 : decode cX9_race 70 = .ok (.invokevirtual 371, 3) := by decide +kernel
theorem dX9_race_73 : decode cX9_race 73 = .ok (.ifCond .eq 58, 3) := by decide +kernel
theorem dX9_race_76 : decode cX9_race 76 = .ok (.aload_n 0, 1) := by decide +kernel
theorem dX9_race_77 : decode cX9_race 77 = .ok (.iconst 1, 1) := by decide +kernel
theorem dX9_race_78 : decode cX9_race 78 = .ok (.putfield 98, 3) := by decide +kernel
theorem dX9_race_81 : decode cX9_race 81 = .ok (.aload_n 0, 1) := by decide +kernel
theorem dX9_race_82 : decode cX9_race 82 = .ok (.iconst 0, 1) := by decide +kernel
theorem dX9_race_83 : decode cX9_race 83 = .ok (.putfield 374, 3) := by decide +kernel
theorem dX9_race_86 : decode cX9_race 86 = .ok (.aload_n 0, 1) := by decide +kernel
theorem dX9_race_87 : decode cX9_race 87 = .ok (.iconst 2, 1) := by decide +kernel
theorem dX9_race_88 : decode cX9_race 88 = .ok (.iload_n 1, 1) := by decide +kernel
theorem dX9_race_89 : decode cX9_race 89 = .ok (.aload_n 0, 1) := by decide +kernel
theorem dX9_race_90 : decode cX9_race 90 = .ok (.getfield 374, 3) := by decide +kernel
theorem dX9_race_93 : decode cX9_race 93 = .ok (.invokevirtual 353, 3) := by decide +kernel
theorem dX9_race_96 : decode cX9_race 96 = .ok (.ifCond .lt 35, 3) := by decide +kernel
theorem dX9_race_99 : decode cX9_race 99 = .ok (.aload_n 0, 1) := by decide +kernel
theorem dX9_race_100 : decode cX9_race 100 = .ok (.getfield 101, 3) := by decide +kernel
theorem dX9_race_103 : decode cX9_race 103 = .ok (.aload_n 0, 1) := by decide +kernel
theorem dX9_race_104 : decode cX9_race 104 = .ok (.getfield 374, 3) := by decide +kernel
theorem dX9_race_107 : decode cX9_race 107 = .ok (.aload_n 0, 1) := by decide +kernel
theorem dX9_race_108 : decode cX9_race 108 = .ok (.iconst 2, 1) := by decide +kernel
theorem dX9_race_109 : decode cX9_race 109 = .ok (.iload_n 1, 1) := by decide +kernel
theorem dX9_race_110 : decode cX9_race 110 = .ok (.aload_n 0, 1) := by decide +kernel
theorem dX9_race_111 : decode cX9_race 111 = .ok (.getfield 374, 3) := by decide +kernel
theorem dX9_race_114 : decode cX9_race 114 = .ok (.invokevirtual 353, 3) := by decide +kernel
theorem dX9_race_117 : decode cX9_race 117 = .ok (.iastore, 1) := by decide +kernel
theorem dX9_race_118 : decode cX9_race 118 = .ok (.aload_n 0, 1) := by decide +kernel
theorem dX9_race_119 : decode cX9_race 119 = .ok (.dup, 1) := by decide +kernel
theorem dX9_race_120 : decode cX9_race 120 = .ok (.getfield 374, 3) := by decide +kernel
theorem dX9_race_123 : decode cX9_race 123 = .ok (.iconst 1, 1) := by decide +kernel
theorem dX9_race_124 : decode cX9_race 124 = .ok (.iadd, 1) := by decide +kernel
theorem dX9_race_125 : decode cX9_race 125 = .ok (.putfield 374, 3) := by decide +kernel
theorem dX9_race_128 : decode cX9_race 128 = .ok (.goto (-42), 3) := by decide +kernel
theorem dX9_race_131 : decode cX9_race 131 = .ok (.iinc 1 1, 3) := by decide +kernel
theorem dX9_race_134 : decode cX9_race 134 = .ok (.goto (-83), 3) := by decide +kernel
theorem dX9_race_137 : decode cX9_race 137 = .ok (.aload_n 0, 1) := by decide +kernel
theorem dX9_race_138 : decode cX9_race 138 = .ok (.getfield 98, 3) := by decide +kernel
theorem dX9_race_141 : decode cX9_race 141 = .ok (.ireturn, 1) := by decide +kernel
set_option maxRecDepth 20000 in
theorem ggX9_racer_X9_race : GoodIn wsX9_racer wsX9_race := goodIn_r _ [11, 1, 12, 13, 14, 5, 6, 15, 16, 17, 10, 18, 19, 20, 21, 22, 23, 24, 25, 26, 27, 28, 29, 30, 31, 32, 33, 34, 35, 36, 37, 38, 39, 40, 41, 42, 43, 44, 45, 46, 47, 48, 49, 50, 51, 52, 53, 54, 55, 56, 57, 58, 59, 60, 61, 62, 63, 64, 65, 66, 67, 68, 69, 70, 71, 72, 73, 74, 75, 76, 77, 78, 79, 80, 81, 82, 83, 84, 85, 86, 87, 88, 89, 90, 91, 92, 93, 94, 95, 96, 97, 98, 99, 100, 101, 102, 103, 104, 105, 106, 107, 108, 109, 110, 111, 112, 113, 114, 2, 3, 4, 115, 116, 117, 118, 119, 120, 121, 122, 123, 124, 125, 126, 127, 128, 129, 130, 131, 132, 133, 134, 135, 136, 137, 138, 139, 140, 141, 142, 143, 144, 145, 146, 147, 148, 149, 150, 151, 152, 153, 154, 155, 156, 157, 158, 159, 160, 161, 162, 163, 164, 165, 166, 167, 168, 169, 170, 171, 172, 173, 174] (by decide +kernel) (by decide +kernel)
set_option maxRecDepth 20000 in
theorem gX9_racer_X9_race : GoodIn wsX9_racer (wsV RX9 377 RX9 yX9_race wsX9_race) := goodIn_app (goodIn_of _ (by decide +kernel)) ggX9_racer_X9_race
theorem dX9_racer_0 : decode cX9_racer 0 = .ok (.aload_n 0, 1) := by decide +kernel
theorem dX9_racer_1 : decode cX9_racer 1 = .ok (.getfield 224, 3) := by decide +kernel
theorem dX9_racer_4 : decode cX9_racer 4 = .ok (.ifCond .eq 15, 3) := by decide +kernel
theorem dX9_racer_7 : decode cX9_racer 7 = .ok (.iload_n 1, 1) := by decide +kernel
theorem dX9_racer_8 : decode cX9_racer 8 = .ok (.ifCond .lt 11, 3) := by decide +kernel
theorem dX9_racer_11 : decode cX9_racer 11 = .ok (.aload_n 0, 1) := by decide +kernel
theorem dX9_racer_12 : decode cX9_racer 12 = .ok (.invokevirtual 377, 3) := by decide +kernel
theorem dX9_racer_15 : decode cX9_racer 15 = .ok (.iconst 1, 1) := by decide +kernel
theorem dX9_racer_16 : decode cX9_racer 16 = .ok (.if_icmp .eq 5, 3) := by decide +kernel
theorem dX9_racer_19 : decode cX9_racer 19 = .ok (.iconst (-1), 1) := by decide +kernel
theorem dX9_racer_20 : decode cX9_racer 20 = .ok (.ireturn, 1) := by decide +kernel
theorem dX9_racer_21 : decode cX9_racer 21 = .ok (.iload_n 1, 1) := by decide +kernel
theorem dX9_racer_22 : decode cX9_racer 22 = .ok (.iconst 3, 1) := by decide +kernel
theorem dX9_racer_23 : decode cX9_racer 23 = .ok (.if_icmp .ge 31, 3) := by decide +kernel
theorem dX9_racer_26 : decode cX9_racer 26 = .ok (.iload_n 1, 1) := by decide +kernel
theorem dX9_racer_27 : decode cX9_racer 27 = .ok (.ifCond .ne 10, 3) := by decide +kernel
theorem dX9_racer_30 : decode cX9_racer 30 = .ok (.aload_n 0, 1) := by decide +kernel
theorem dX9_racer_31 : decode cX9_racer 31 = .ok (.getfield 362, 3) := by decide +kernel
theorem dX9_racer_34 : decode cX9_racer 34 = .ok (.goto 19, 3) := by decide +kernel
theorem dX9_racer_37 : decode cX9_racer 37 = .ok (.iload_n 1, 1) := by decide +kernel
theorem dX9_racer_38 : decode cX9_racer 38 = .ok (.iconst 1, 1) := by decide +kernel
theorem dX9_racer_39 : decode cX9_racer 39 = .ok (.if_icmp .ne 10, 3) := by decide +kernel
theorem dX9_racer_42 : decode cX9_racer 42 = .ok (.aload_n 0, 1) := by decide +kernel
theorem dX9_racer_43 : decode cX9_racer 43 = .ok (.getfield 365, 3) := by decide +kernel
theorem dX9_racer_46 : decode cX9_racer 46 = .ok (.goto 7, 3) := by decide +kernel
theorem dX9_racer_49 : decode cX9_racer 49 = .ok (.aload_n 0, 1) := by decide +kernel
theorem dX9_racer_50 : decode cX9_racer 50 = .ok (.getfield 368, 3) := by decide +kernel
theorem dX9_racer_53 : decode cX9_racer 53 = .ok (.ireturn, 1) := by decide +kernel
theorem dX9_racer_54 : decode cX9_racer 54 = .ok (.iload_n 1, 1) := by decide +kernel
theorem dX9_racer_55 : decode cX9_racer 55 = .ok (.iconst 3, 1) := by decide +kernel
theorem dX9_racer_56 : decode cX9_racer 56 = .ok (.isub, 1) := by decide +kernel
theorem dX9_racer_57 : decode cX9_racer 57 = .ok (.aload_n 0, 1) := by decide +kernel
theorem dX9_racer_58 : decode cX9_racer 58 = .ok (.getfield 374, 3) := by decide +kernel
theorem dX9_racer_61 : decode cX9_racer 61 = .ok (.if_icmp .ge 14, 3) := by decide +kernel
theorem dX9_racer_64 : decode cX9_racer 64 = .ok (.aload_n 0, 1) := by decide +kernel
theorem dX9_racer_65 : decode cX9_racer 65 = .ok (.getfield 101, 3) := by decide +kernel
theorem dX9_racer_68 : decode cX9_racer 68 = .ok (.iload_n 1, 1) := by decide +kernel
theorem dX9_racer_69 : decode cX9_racer 69 = .ok (.iconst 3, 1) := by decide +kernel
theorem dX9_racer_70 : decode cX9_racer 70 = .ok (.isub, 1) := by decide +kernel
theorem dX9_racer_71 : decode cX9_racer 71 = .ok (.iaload, 1) := by decide +kernel
theorem dX9_racer_72 : decode cX9_racer 72 = .ok (.goto 4, 3) := by decide +kernel
theorem dX9_racer_75 : decode cX9_racer 75 = .ok (.iconst (-1), 1) := by decide +kernel
theorem dX9_racer_76 : decode cX9_racer 76 = .ok (.ireturn, 1) := by decide +kernel
theorem dX9_cure_0 : decode cX9_cure 0 = .ok (.aload_n 0, 1) := by decide +kernel
theorem dX9_cure_1 : decode cX9_cure 1 = .ok (.getfield 224, 3) := by decide +kernel
theorem dX9_cure_4 : decode cX9_cure 4 = .ok (.ifCond .eq 12, 3) := by decide +kernel
theorem dX9_cure_7 : decode cX9_cure 7 = .ok (.iload_n 1, 1) := by decide +kernel
theorem dX9_cure_8 : decode cX9_cure 8 = .ok (.ifCond .lt 8, 3) := by decide +kernel
theorem dX9_cure_11 : decode cX9_cure 11 = .ok (.iload_n 1, 1) := by decide +kernel
theorem dX9_cure_12 : decode cX9_cure 12 = .ok (.iconst 2, 1) := by decide +kernel
theorem dX9_cure_13 : decode cX9_cure 13 = .ok (.if_icmp .le 5, 3) := by decide +kernel
theorem dX9_cure_16 : decode cX9_cure 16 = .ok (.iconst (-1), 1) := by decide +kernel
theorem dX9_cure_17 : decode cX9_cure 17 = .ok (.ireturn, 1) := by decide +kernel
theorem dX9_cure_18 : decode cX9_cure 18 = .ok (.aload_n 0, 1) := by decide +kernel
theorem dX9_cure_19 : decode cX9_cure 19 = .ok (.iconst 0, 1) := by decide +kernel
theorem dX9_cure_20 : decode cX9_cure 20 = .ok (.invokevirtual 347, 3) := by decide +kernel
theorem dX9_cure_23 : decode cX9_cure 23 = .ok (.ifCond .ne 6, 3) := by decide +kernel
theorem dX9_cure_26 : decode cX9_cure 26 = .ok (.bipush (-2), 2) := by decide +kernel
theorem dX9_cure_28 : decode cX9_cure 28 = .ok (.ireturn, 1) := by decide +kernel
theorem dX9_cure_29 : decode cX9_cure 29 = .ok (.aload_n 0, 1) := by decide +kernel
theorem dX9_cure_30 : decode cX9_cure 30 = .ok (.invokevirtual 393, 3) := by decide +kernel
theorem dX9_cure_33 : decode cX9_cure 33 = .ok (.aload_n 0, 1) := by decide +kernel
theorem dX9_cure_34 : decode cX9_cure 34 = .ok (.iconst (-1), 1) := by decide +kernel
theorem dX9_cure_35 : decode cX9_cure 35 = .ok (.iconst (-1), 1) := by decide +kernel
theorem dX9_cure_36 : decode cX9_cure 36 = .ok (.invokevirtual 396, 3) := by decide +kernel
theorem dX9_cure_39 : decode cX9_cure 39 = .ok (.istore_n 2, 1) := by decide +kernel
theorem dX9_cure_40 : decode cX9_cure 40 = .ok (.iload_n 2, 1) := by decide +kernel
theorem dX9_cure_41 : decode cX9_cure 41 = .ok (.iconst 1, 1) := by decide +kernel
theorem dX9_cure_42 : decode cX9_cure 42 = .ok (.if_icmp .ne 7, 3) := by decide +kernel
theorem dX9_cure_45 : decode cX9_cure 45 = .ok (.iconst 0, 1) := by decide +kernel
theorem dX9_cure_46 : decode cX9_cure 46 = .ok (.goto 4, 3) := by decide +kernel
theorem dX9_cure_49 : decode cX9_cure 49 = .ok (.iconst (-1), 1) := by decide +kernel
theorem dX9_cure_50 : decode cX9_cure 50 = .ok (.istore_n 3, 1) := by decide +kernel
theorem dX9_cure_51 : decode cX9_cure 51 = .ok (.iconst (-1), 1) := by decide +kernel
theorem dX9_cure_52 : decode cX9_cure 52 = .ok (.istore 4, 2) := by decide +kernel
theorem dX9_cure_54 : decode cX9_cure 54 = .ok (.iconst (-1), 1) := by decide +kernel
theorem dX9_cure_55 : decode cX9_cure 55 = .ok (.istore 5, 2) := by decide +kernel
theorem dX9_cure_57 : decode cX9_cure 57 = .ok (.iconst 0, 1) := by decide +kernel
theorem dX9_cure_58 : decode cX9_cure 58 = .ok (.istore 6, 2) := by decide +kernel
theorem dX9_cure_60 : decode cX9_cure 60 = .ok (.iload 6, 2) := by decide +kernel
theorem dX9_cure_62 : decode cX9_cure 62 = .ok (.aload_n 0, 1) := by decide +kernel
theorem dX9_cure_63 : decode cX9_cure 63 = .ok (.getfield 381, 3) := by decide +kernel
theorem dX9_cure_66 : decode cX9_cure 66 = .ok (.if_icmp .ge 51, 3) := by decide +kernel
theorem dX9_cure_69 : decode cX9_cure 69 = .ok (.iload_n 1, 1) := by decide +kernel
theorem dX9_cure_70 : decode cX9_cure 70 = .ok (.iconst 1, 1) := by decide +kernel
theorem dX9_cure_71 : decode cX9_cure 71 = .ok (.if_icmp .lt 46, 3) := by decide +kernel
theorem dX9_cure_74 : decode cX9_cure 74 = .ok (.iload_n 2, 1) := by decide +kernel
theorem dX9_cure_75 : decode cX9_cure 75 = .ok (.ifCond .ne 42, 3) := by decide +kernel
theorem dX9_cure_78 : decode cX9_cure 78 = .ok (.aload_n 0, 1) := by decide +kernel
theorem dX9_cure_79 : decode cX9_cure 79 = .ok (.aload_n 0, 1) := by decide +kernel
theorem dX9_cure_80 : decode cX9_cure 80 = .ok (.getfield 110, 3) := by decide +kernel
theorem dX9_cure_83 : decode cX9_cure 83 = .ok (.iload 6, 2) := by decide +kernel
theorem dX9_cure_85 : decode cX9_cure 85 = .ok (.iaload, 1) := by decide +kernel
theorem dX9_cure_86 : decode cX9_cure 86 = .ok (.iconst (-1), 1) := by decide +kernel
theorem dX9_cure_87 : decode cX9_cure 87 = .ok (.invokevirtual 396, 3) := by decide +kernel
theorem dX9_cure_90 : decode cX9_cure 90 = .ok (.istore_n 2, 1) := by decide +kernel
theorem dX9_cure_91 : decode cX9_cure 91 = .ok (.iload_n 2, 1) := by decide +kernel
theorem dX9_cure_92 : decode cX9_cure 92 = .ok (.iconst 1, 1) := by decide +kernel
theorem dX9_cure_93 : decode cX9_cure 93 = .ok (.if_icmp .ne 7, 3) := by decide +kernel
theorem dX9_cure_96 : decode cX9_cure 96 = .ok (.iconst 1, 1) := by decide +kernel
theorem dX9_cure_97 : decode cX9_cure 97 = .ok (.goto 4, 3) := by decide +kernel
theorem dX9_cure_100 : decode cX9_cure 100 = .ok (.iconst (-1), 1) := by decide +kernel
theorem dX9_cure_101 : decode cX9_cure 101 = .ok (.istore_n 3, 1) := by decide +kernel
theorem dX9_cure_102 : decode cX9_cure 102 = .ok (.aload_n 0, 1) := by decide +kernel
theorem dX9_cure_103 : decode cX9_cure 103 = .ok (.getfield 110, 3) := by decide +kernel
theorem dX9_cure_106 : decode cX9_cure 106 = .ok (.iload 6, 2) := by decide +kernel
theorem dX9_cure_108 : decode cX9_cure 108 = .ok (.iaload, 1) := by decide +kernel
theorem dX9_cure_109 : decode cX9_cure 109 = .ok (.istore 4, 2) := by decide +kernel
theorem dX9_cure_111 : decode cX9_cure 111 = .ok (.iinc 6 1, 3) := by decide +kernel
theorem dX9_cure_114 : decode cX9_cure 114 = .ok (.goto (-54), 3) := by decide +kernel
theorem dX9_cure_117 : decode cX9_cure 117 = .ok (.iconst 0, 1) := by decide +kernel
theorem dX9_cure_118 : decode cX9_cure 118 = .ok (.istore 6, 2) := by decide +kernel
theorem dX9_cure_120 : decode cX9_cure 120 = .ok (.iload 6, 2) := by decide +kernel
theorem dX9_cure_122 : decode cX9_cure 122 = .ok (.aload_n 0, 1) := by decide +kernel
theorem dX9_cure_123 : decode cX9_cure 123 = .ok (.getfield 381, 3) := by decide +kernel
theorem dX9_cure_126 : decode cX9_cure 126 = .ok (.if_icmp .ge 91, 3) := by decide +kernel
theorem dX9_cure_129 : decode cX9_cure 129 = .ok (.iload_n 1, 1) := by decide +kernel
theorem dX9_cure_130 : decode cX9_cure 130 = .ok (.iconst 2, 1) := by decide +kernel
theorem dX9_cure_131 : decode cX9_cure 131 = .ok (.if_icmp .lt 86, 3) := by decide +kernel
theorem dX9_cure_134 : decode cX9_cure 134 = .ok (.iload_n 2, 1) := by decide +kernel
theorem dX9_cure_135 : decode cX9_cure 135 = .ok (.ifCond .ne 82, 3) := by decide +kernel
theorem dX9_cure_138 : decode cX9_cure 138 = .ok (.iload 6, 2) := by decide +kernel
theorem dX9_cure_140 : decode cX9_cure 140 = .ok (.iconst 1, 1) := by decide +kernel
theorem dX9_cure_141 : decode cX9_cure 141 = .ok (.iadd, 1) := by decide +kernel
theorem dX9_cure_142 : decode cX9_cure 142 = .ok (.istore 7, 2) := by decide +kernel
theorem dX9_cure_144 : decode cX9_cure 144 = .ok (.iload 7, 2) := by decide +kernel
theorem dX9_cure_146 : decode cX9_cure 146 = .ok (.aload_n 0, 1) := by decide +kernel
theorem dX9_cure_147 : decode cX9_cure 147 = .ok (.getfield 381, 3) := by decide +kernel
theorem dX9_cure_150 : decode cX9_cure 150 = .ok (.if_icmp .ge 61, 3) := by decide +kernel
theorem dX9_cure_153 : decode cX9_cure 153 = .ok (.iload_n 2, 1) := by decide +kernel
theorem dX9_cure_154 : decode cX9_cure 154 = .ok (.ifCond .ne 57, 3) := by decide +kernel
theorem dX9_cure_157 : decode cX9_cure 157 = .ok (.aload_n 0, 1) := by decide +kernel
theorem dX9_cure_158 : decode cX9_cure 158 = .ok (.aload_n 0, 1) := by decide +kernel
theorem dX9_cure_159 : decode cX9_cure 159 = .ok (.getfield 110, 3) := by decide +kernel
theorem dX9_cure_162 : decode cX9_cure 162 = .ok (.iload 6, 2) := by decide +kernel
theorem dX9_cure_164 : decode cX9_cure 164 = .ok (.iaload, 1) := by decide +kernel
theorem dX9_cure_165 : decode cX9_cure 165 = .ok (.aload_n 0, 1) := by decide +kernel
theorem dX9_cure_166 : decode cX9_cure 166 = .ok (.getfield 110, 3) := by decide +kernel
theorem dX9_cure_169 : decode cX9_cure 169 = .ok (.iload 7, 2) := by decide +kernel
theorem dX9_cure_171 : decode cX9_cure 171 = .ok (.iaload, 1) := by decide +kernel
theorem dX9_cure_172 : decode cX9_cure 172 = .ok (.invokevirtual 396, 3) := by decide +kernel
theorem dX9_cure_175 : decode cX9_cure 175 = .ok (.istore_n 2, 1) := by decide +kernel
theorem dX9_cure_176 : decode cX9_cure 176 = .ok (.iload_n 2, 1) := by decide +kernel
theorem dX9_cure_177 : decode cX9_cure 177 = .ok (.iconst 1, 1) := by decide +kernel
theorem dX9_cure_178 : decode cX9_cure 178 = .ok (.if_icmp .ne 7, 3) := by decide +kernel
theorem dX9_cure_181 : decode cX9_cure 181 = .ok (.iconst 2, 1) := by decide +kernel
theorem dX9_cure_182 : decode cX9_cure 182 = .ok (.goto 4, 3) := by decide +kernel
theorem dX9_cure_185 : decode cX9_cure 185 = .ok (.iconst (-1), 1) := by decide +kernel
theorem dX9_cure_186 : decode cX9_cure 186 = .ok (.istore_n 3, 1) := by decide +kernel
theorem dX9_cure_187 : decode cX9_cure 187 = .ok (.aload_n 0, 1) := by decide +kernel
theorem dX9_cure_188 : decode cX9_cure 188 = .ok (.getfield 110, 3) := by decide +kernel
theorem dX9_cure_191 : decode cX9_cure 191 = .ok (.iload 6, 2) := by decide +kernel
theorem dX9_cure_193 : decode cX9_cure 193 = .ok (.iaload, 1) := by decide +kernel
theorem dX9_cure_194 : decode cX9_cure 194 = .ok (.istore 4, 2) := by decide +kernel
theorem dX9_cure_196 : decode cX9_cure 196 = .ok (.aload_n 0, 1) := by decide +kernel
theorem dX9_cure_197 : decode cX9_cure 197 = .ok (.getfield 110, 3) := by decide +kernel
theorem dX9_cure_200 : decode cX9_cure 200 = .ok (.iload 7, 2) := by decide +kernel
theorem dX9_cure_202 : decode cX9_cure 202 = .ok (.iaload, 1) := by decide +kernel
theorem dX9_cure_203 : decode cX9_cure 203 = .ok (.istore 5, 2) := by decide +kernel
theorem dX9_cure_205 : decode cX9_cure 205 = .ok (.iinc 7 1, 3) := by decide +kernel
theorem dX9_cure_208 : decode cX9_cure 208 = .ok (.goto (-64), 3) := by decide +kernel
theorem dX9_cure_211 : decode cX9_cure 211 = .ok (.iinc 6 1, 3) := by decide +kernel
theorem dX9_cure_214 : decode cX9_cure 214 = .ok (.goto (-94), 3) := by decide +kernel
theorem dX9_cure_217 : decode cX9_cure 217 = .ok (.iload_n 2, 1) := by decide +kernel
theorem dX9_cure_218 : decode cX9_cure 218 = .ok (.bipush (-2), 2) := by decide +kernel
theorem dX9_cure_220 : decode cX9_cure 220 = .ok (.if_icmp .ne 6, 3) := by decide +kernel
theorem dX9_cure_223 : decode cX9_cure 223 = .ok (.bipush (-2), 2) := by decide +kernel
theorem dX9_cure_225 : decode cX9_cure 225 = .ok (.ireturn, 1) := by decide +kernel
theorem dX9_cure_226 : decode cX9_cure 226 = .ok (.iload_n 3, 1) := by decide +kernel
theorem dX9_cure_227 : decode cX9_cure 227 = .ok (.ifCond .lt 24, 3) := by decide +kernel
theorem dX9_cure_230 : decode cX9_cure 230 = .ok (.aload_n 0, 1) := by decide +kernel
theorem dX9_cure_231 : decode cX9_cure 231 = .ok (.iload_n 3, 1) := by decide +kernel
theorem dX9_cure_232 : decode cX9_cure 232 = .ok (.putfield 104, 3) := by decide +kernel
theorem dX9_cure_235 : decode cX9_cure 235 = .ok (.aload_n 0, 1) := by decide +kernel
theorem dX9_cure_236 : decode cX9_cure 236 = .ok (.getfield 107, 3) := by decide +kernel
theorem dX9_cure_239 : decode cX9_cure 239 = .ok (.iconst 0, 1) := by decide +kernel
theorem dX9_cure_240 : decode cX9_cure 240 = .ok (.iload 4, 2) := by decide +kernel
theorem dX9_cure_242 : decode cX9_cure 242 = .ok (.iastore, 1) := by decide +kernel
theorem dX9_cure_243 : decode cX9_cure 243 = .ok (.aload_n 0, 1) := by decide +kernel
theorem dX9_cure_244 : decode cX9_cure 244 = .ok (.getfield 107, 3) := by decide +kernel
theorem dX9_cure_247 : decode cX9_cure 247 = .ok (.iconst 1, 1) := by decide +kernel
theorem dX9_cure_248 : decode cX9_cure 248 = .ok (.iload 5, 2) := by decide +kernel
theorem dX9_cure_250 : decode cX9_cure 250 = .ok (.iastore, 1) := by decide +kernel
theorem dX9_cure_251 : decode cX9_cure 251 = .ok (.iload_n 3, 1) := by decide +kernel
theorem dX9_cure_252 : decode cX9_cure 252 = .ok (.ireturn, 1) := by decide +kernel
theorem dX9_cured_0 : decode cX9_cured 0 = .ok (.aload_n 0, 1) := by decide +kernel
theorem dX9_cured_1 : decode cX9_cured 1 = .ok (.getfield 224, 3) := by decide +kernel
theorem dX9_cured_4 : decode cX9_cured 4 = .ok (.ifCond .eq 24, 3) := by decide +kernel
theorem dX9_cured_7 : decode cX9_cured 7 = .ok (.iload_n 1, 1) := by decide +kernel
theorem dX9_cured_8 : decode cX9_cured 8 = .ok (.ifCond .lt 20, 3) := by decide +kernel
theorem dX9_cured_11 : decode cX9_cured 11 = .ok (.iload_n 1, 1) := by decide +kernel
theorem dX9_cured_12 : decode cX9_cured 12 = .ok (.aload_n 0, 1) := by decide +kernel
theorem dX9_cured_13 : decode cX9_cured 13 = .ok (.getfield 104, 3) := by decide +kernel
theorem dX9_cured_16 : decode cX9_cured 16 = .ok (.if_icmp .ge 12, 3) := by decide +kernel
theorem dX9_cured_19 : decode cX9_cured 19 = .ok (.aload_n 0, 1) := by decide +kernel
theorem dX9_cured_20 : decode cX9_cured 20 = .ok (.getfield 107, 3) := by decide +kernel
theorem dX9_cured_23 : decode cX9_cured 23 = .ok (.iload_n 1, 1) := by decide +kernel
theorem dX9_cured_24 : decode cX9_cured 24 = .ok (.iaload, 1) := by decide +kernel
theorem dX9_cured_25 : decode cX9_cured 25 = .ok (.goto 4, 3) := by decide +kernel
theorem dX9_cured_28 : decode cX9_cured 28 = .ok (.iconst (-1), 1) := by decide +kernel
theorem dX9_cured_29 : decode cX9_cured 29 = .ok (.ireturn, 1) := by decide +kernel
theorem dX9_count_0 : decode cX9_count 0 = .ok (.iload_n 1, 1) := by decide +kernel
theorem dX9_count_1 : decode cX9_count 1 = .ok (.bipush 9, 2) := by decide +kernel
theorem dX9_count_3 : decode cX9_count 3 = .ok (.if_icmp .ne 8, 3) := by decide +kernel
theorem dX9_count_6 : decode cX9_count 6 = .ok (.aload_n 0, 1) := by decide +kernel
theorem dX9_count_7 : decode cX9_count 7 = .ok (.getfield 116, 3) := by decide +kernel
theorem dX9_count_10 : decode cX9_count 10 = .ok (.ireturn, 1) := by decide +kernel
theorem dX9_count_11 : decode cX9_count 11 = .ok (.iload_n 1, 1) := by decide +kernel
theorem dX9_count_12 : decode cX9_count 12 = .ok (.ifCond .lt 9, 3) := by decide +kernel
theorem dX9_count_15 : decode cX9_count 15 = .ok (.iload_n 1, 1) := by decide +kernel
theorem dX9_count_16 : decode cX9_count 16 = .ok (.bipush 9, 2) := by decide +kernel
theorem dX9_count_18 : decode cX9_count 18 = .ok (.if_icmp .le 5, 3) := by decide +kernel
theorem dX9_count_21 : decode cX9_count 21 = .ok (.iconst (-1), 1) := by decide +kernel
theorem dX9_count_22 : decode cX9_count 22 = .ok (.ireturn, 1) := by decide +kernel
theorem dX9_count_23 : decode cX9_count 23 = .ok (.aload_n 0, 1) := by decide +kernel
theorem dX9_count_24 : decode cX9_count 24 = .ok (.getfield 224, 3) := by decide +kernel
theorem dX9_count_27 : decode cX9_count 27 = .ok (.ifCond .ne 5, 3) := by decide +kernel
theorem dX9_count_30 : decode cX9_count 30 = .ok (.iconst 0, 1) := by decide +kernel
theorem dX9_count_31 : decode cX9_count 31 = .ok (.ireturn, 1) := by decide +kernel
theorem dX9_count_32 : decode cX9_count 32 = .ok (.iload_n 1, 1) := by decide +kernel
theorem dX9_count_33 : decode cX9_count 33 = .ok (.tableswitch 193 0 7 #[47, 54, 75, 94, 113, 132, 151, 167], 47) := by decide +kernel
theorem dX9_count_80 : decode cX9_count 80 = .ok (.aload_n 0, 1) := by decide +kernel
theorem dX9_count_81 : decode cX9_count 81 = .ok (.getfield 7, 3) := by decide +kernel
theorem dX9_count_84 : decode cX9_count 84 = .ok (.iconst 0, 1) := by decide +kernel
theorem dX9_count_85 : decode cX9_count 85 = .ok (.iaload, 1) := by decide +kernel
theorem dX9_count_86 : decode cX9_count 86 = .ok (.ireturn, 1) := by decide +kernel
theorem dX9_count_87 : decode cX9_count 87 = .ok (.aload_n 0, 1) := by decide +kernel
theorem dX9_count_88 : decode cX9_count 88 = .ok (.getfield 13, 3) := by decide +kernel
theorem dX9_count_91 : decode cX9_count 91 = .ok (.iconst 0, 1) := by decide +kernel
theorem dX9_count_92 : decode cX9_count 92 = .ok (.iaload, 1) := by decide +kernel
theorem dX9_count_93 : decode cX9_count 93 = .ok (.aload_n 0, 1) := by decide +kernel
theorem dX9_count_94 : decode cX9_count 94 = .ok (.getfield 13, 3) := by decide +kernel
theorem dX9_count_97 : decode cX9_count 97 = .ok (.iconst 1, 1) := by decide +kernel
theorem dX9_count_98 : decode cX9_count 98 = .ok (.iaload, 1) := by decide +kernel
theorem dX9_count_99 : decode cX9_count 99 = .ok (.iadd, 1) := by decide +kernel
theorem dX9_count_100 : decode cX9_count 100 = .ok (.aload_n 0, 1) := by decide +kernel
theorem dX9_count_101 : decode cX9_count 101 = .ok (.getfield 13, 3) := by decide +kernel
theorem dX9_count_104 : decode cX9_count 104 = .ok (.iconst 2, 1) := by decide +kernel
theorem dX9_count_105 : decode cX9_count 105 = .ok (.iaload, 1) := by decide +kernel
theorem dX9_count_106 : decode cX9_count 106 = .ok (.iadd, 1) := by decide +kernel
theorem dX9_count_107 : decode cX9_count 107 = .ok (.ireturn, 1) := by decide +kernel
theorem dX9_count_108 : decode cX9_count 108 = .ok (.aload_n 0, 1) := by decide +kernel
theorem dX9_count_109 : decode cX9_count 109 = .ok (.iconst 1, 1) := by decide +kernel
theorem dX9_count_110 : decode cX9_count 110 = .ok (.invokevirtual 347, 3) := by decide +kernel
theorem dX9_count_113 : decode cX9_count 113 = .ok (.ifCond .eq 12, 3) := by decide +kernel
theorem dX9_count_116 : decode cX9_count 116 = .ok (.aload_n 0, 1) := by decide +kernel
theorem dX9_count_117 : decode cX9_count 117 = .ok (.getfield 59, 3) := by decide +kernel
theorem dX9_count_120 : decode cX9_count 120 = .ok (.iconst 1, 1) := by decide +kernel
theorem dX9_count_121 : decode cX9_count 121 = .ok (.iaload, 1) := by decide +kernel
theorem dX9_count_122 : decode cX9_count 122 = .ok (.goto 4, 3) := by decide +kernel
theorem dX9_count_125 : decode cX9_count 125 = .ok (.iconst (-1), 1) := by decide +kernel
theorem dX9_count_126 : decode cX9_count 126 = .ok (.ireturn, 1) := by decide +kernel
theorem dX9_count_127 : decode cX9_count 127 = .ok (.aload_n 0, 1) := by decide +kernel
theorem dX9_count_128 : decode cX9_count 128 = .ok (.iconst 0, 1) := by decide +kernel
theorem dX9_count_129 : decode cX9_count 129 = .ok (.invokevirtual 347, 3) := by decide +kernel
theorem dX9_count_132 : decode cX9_count 132 = .ok (.ifCond .eq 12, 3) := by decide +kernel
theorem dX9_count_135 : decode cX9_count 135 = .ok (.aload_n 0, 1) := by decide +kernel
theorem dX9_count_136 : decode cX9_count 136 = .ok (.getfield 59, 3) := by decide +kernel
theorem dX9_count_139 : decode cX9_count 139 = .ok (.iconst 0, 1) := by decide +kernel
theorem dX9_count_140 : decode cX9_count 140 = .ok (.iaload, 1) := by decide +kernel
theorem dX9_count_141 : decode cX9_count 141 = .ok (.goto 4, 3) := by decide +kernel
theorem dX9_count_144 : decode cX9_count 144 = .ok (.iconst (-1), 1) := by decide +kernel
theorem dX9_count_145 : decode cX9_count 145 = .ok (.ireturn, 1) := by decide +kernel
theorem dX9_count_146 : decode cX9_count 146 = .ok (.aload_n 0, 1) := by decide +kernel
theorem dX9_count_147 : decode cX9_count 147 = .ok (.iconst 1, 1) := by decide +kernel
theorem dX9_count_148 : decode cX9_count 148 = .ok (.invokevirtual 347, 3) := by decide +kernel
theorem dX9_count_151 : decode cX9_count 151 = .ok (.ifCond .eq 12, 3) := by decide +kernel
theorem dX9_count_154 : decode cX9_count 154 = .ok (.aload_n 0, 1) := by decide +kernel
theorem dX9_count_155 : decode cX9_count 155 = .ok (.getfield 72, 3) := by decide +kernel
theorem dX9_count_158 : decode cX9_count 158 = .ok (.iconst 1, 1) := by decide +kernel
theorem dX9_count_159 : decode cX9_count 159 = .ok (.iaload, 1) := by decide +kernel
theorem dX9_count_160 : decode cX9_count 160 = .ok (.goto 4, 3) := by decide +kernel
theorem dX9_count_163 : decode cX9_count 163 = .ok (.iconst (-1), 1) := by decide +kernel
theorem dX9_count_164 : decode cX9_count 164 = .ok (.ireturn, 1) := by decide +kernel
theorem dX9_count_165 : decode cX9_count 165 = .ok (.aload_n 0, 1) := by decide +kernel
theorem dX9_count_166 : decode cX9_count 166 = .ok (.iconst 0, 1) := by decide +kernel
theorem dX9_count_167 : decode cX9_count 167 = .ok (.invokevirtual 347, 3) := by decide +kernel
theorem dX9_count_170 : decode cX9_count 170 = .ok (.ifCond .eq 12, 3) := by decide +kernel
theorem dX9_count_173 : decode cX9_count 173 = .ok (.aload_n 0, 1) := by decide +kernel
theorem dX9_count_174 : decode cX9_count 174 = .ok (.getfield 72, 3) := by decide +kernel
theorem dX9_count_177 : decode cX9_count 177 = .ok (.iconst 0, 1) := by decide +kernel
theorem dX9_count_178 : decode cX9_count 178 = .ok (.iaload, 1) := by decide +kernel
theorem dX9_count_179 : decode cX9_count 179 = .ok (.goto 4, 3) := by decide +kernel
theorem dX9_count_182 : decode cX9_count 182 = .ok (.iconst (-1), 1) := by decide +kernel
theorem dX9_count_183 : decode cX9_count 183 = .ok (.ireturn, 1) := by decide +kernel
theorem dX9_count_184 : decode cX9_count 184 = .ok (.aload_n 0, 1) := by decide +kernel
theorem dX9_count_185 : decode cX9_count 185 = .ok (.getfield 84, 3) := by decide +kernel
theorem dX9_count_188 : decode cX9_count 188 = .ok (.ifCond .ge 7, 3) := by decide +kernel
theorem dX9_count_191 : decode cX9_count 191 = .ok (.iconst 0, 1) := by decide +kernel
theorem dX9_count_192 : decode cX9_count 192 = .ok (.goto 7, 3) := by decide +kernel
theorem dX9_count_195 : decode cX9_count 195 = .ok (.aload_n 0, 1) := by decide +kernel
theorem dX9_count_196 : decode cX9_count 196 = .ok (.getfield 227, 3) := by decide +kernel
theorem dX9_count_199 : decode cX9_count 199 = .ok (.ireturn, 1) := by decide +kernel
theorem dX9_count_200 : decode cX9_count 200 = .ok (.aload_n 0, 1) := by decide +kernel
theorem dX9_count_201 : decode cX9_count 201 = .ok (.getfield 84, 3) := by decide +kernel
theorem dX9_count_204 : decode cX9_count 204 = .ok (.ifCond .lt 20, 3) := by decide +kernel
theorem dX9_count_207 : decode cX9_count 207 = .ok (.aload_n 0, 1) := by decide +kernel
theorem dX9_count_208 : decode cX9_count 208 = .ok (.iconst 0, 1) := by decide +kernel
theorem dX9_count_209 : decode cX9_count 209 = .ok (.aload_n 0, 1) := by decide +kernel
theorem dX9_count_210 : decode cX9_count 210 = .ok (.getfield 78, 3) := by decide +kernel
theorem dX9_count_213 : decode cX9_count 213 = .ok (.iconst 0, 1) := by decide +kernel
theorem dX9_count_214 : decode cX9_count 214 = .ok (.invokevirtual 317, 3) := by decide +kernel
theorem dX9_count_217 : decode cX9_count 217 = .ok (.ifCond .eq 7, 3) := by decide +kernel
theorem dX9_count_220 : decode cX9_count 220 = .ok (.iconst 1, 1) := by decide +kernel
theorem dX9_count_221 : decode cX9_count 221 = .ok (.goto 4, 3) := by decide +kernel
theorem dX9_count_224 : decode cX9_count 224 = .ok (.iconst 0, 1) := by decide +kernel
theorem dX9_count_225 : decode cX9_count 225 = .ok (.ireturn, 1) := by decide +kernel
theorem dX9_count_226 : decode cX9_count 226 = .ok (.aload_n 0, 1) := by decide +kernel
theorem dX9_count_227 : decode cX9_count 227 = .ok (.invokevirtual 393, 3) := by decide +kernel
theorem dX9_count_230 : decode cX9_count 230 = .ok (.aload_n 0, 1) := by decide +kernel
theorem dX9_count_231 : decode cX9_count 231 = .ok (.getfield 381, 3) := by decide +kernel
theorem dX9_count_234 : decode cX9_count 234 = .ok (.ireturn, 1) := by decide +kernel
theorem dJ7_fill_53178_0 : decode cJ7_fill_53178 0 = .ok (.iconst 0, 1) := by decide +kernel
theorem dJ7_fill_53178_1 : decode cJ7_fill_53178 1 = .ok (.istore_n 2, 1) := by decide +kernel
theorem dJ7_fill_53178_2 : decode cJ7_fill_53178 2 = .ok (.aload_n 0, 1) := by decide +kernel
theorem dJ7_fill_53178_3 : decode cJ7_fill_53178 3 = .ok (.arraylength, 1) := by decide +kernel
theorem dJ7_fill_53178_4 : decode cJ7_fill_53178 4 = .ok (.istore_n 3, 1) := by decide +kernel
theorem dJ7_fill_53178_5 : decode cJ7_fill_53178 5 = .ok (.iload_n 2, 1) := by decide +kernel
theorem dJ7_fill_53178_6 : decode cJ7_fill_53178 6 = .ok (.iload_n 3, 1) := by decide +kernel
theorem dJ7_fill_53178_7 : decode cJ7_fill_53178 7 = .ok (.if_icmp .ge 13, 3) := by decide +kernel
theorem dJ7_fill_53178_10 : decode cJ7_fill_53178 10 = .ok (.aload_n 0, 1) := by decide +kernel
theorem dJ7_fill_53178_11 : decode cJ7_fill_53178 11 = .ok (.iload_n 2, 1) := by decide +kernel
theorem dJ7_fill_53178_12 : decode cJ7_fill_53178 12 = .ok (.iload_n 1, 1) := by decide +kernel
theorem dJ7_fill_53178_13 : decode cJ7_fill_53178 13 = .ok (.iastore, 1) := by decide +kernel
theorem dJ7_fill_53178_14 : decode cJ7_fill_53178 14 = .ok (.iinc 2 1, 3) := by decide +kernel
theorem dJ7_fill_53178_17 : decode cJ7_fill_53178 17 = .ok (.goto (-12), 3) := by decide +kernel
theorem dJ7_fill_53178_20 : decode cJ7_fill_53178 20 = .ok (.return_, 1) := by decide +kernel
set_option maxRecDepth 20000 in
theorem ggL_law_X8_init : GoodIn wsL_law wsX8_init := goodIn_r _ [8, 9, 10, 11, 12, 13, 14, 15, 16, 17, 18, 19, 20, 21, 22, 23, 24, 25, 26, 27, 28, 29, 30, 31, 32, 33, 34, 35, 36, 37, 38, 39, 40, 41, 42, 43, 44, 45, 46, 47, 48, 49, 50, 51, 52, 53, 54, 55, 56, 57, 58, 59, 60, 61, 62, 63, 64, 65, 66, 67, 68, 69, 70, 71, 72, 73, 74, 75, 76, 77, 78, 79, 80, 81, 82, 83, 84, 1098, 1099, 1100, 1101, 1102, 1103, 1104, 1105, 1106, 1107, 1108, 1109, 1162, 1163, 1164, 1165, 1166, 1167, 1168, 1169, 1170, 1171, 1172, 1173, 1174, 1175, 1176, 1177, 1178, 1179, 1180, 1181, 1182, 1183, 1184, 1185, 1186, 1187, 1188, 1189, 1190, 1191, 1192, 1193, 1194, 1195, 1196, 1197, 1198, 1199, 1200, 1201] (by decide +kernel) (by decide +kernel)
set_option maxRecDepth 20000 in
theorem gL_law_X8_init : GoodIn wsL_law (wsX8_init) := ggL_law_X8_init
set_option maxRecDepth 20000 in
theorem ggL_law_X9_init : GoodIn wsL_law wsX9_init := goodIn_r _ [87, 88, 10, 11, 46, 89, 90, 91, 92, 93, 94, 95, 96, 97, 98, 99, 100, 101, 102, 103, 104, 105, 106, 107, 108, 109, 110, 111, 112, 113, 114, 115, 12, 116, 117, 118, 119, 120, 121, 122, 123, 124, 1110, 1111, 1112, 1113, 1114, 1115, 1116, 1117, 1118, 1119, 1120, 1121, 1122, 1123, 1124, 1125, 1126, 1127, 1128, 1129, 1130, 1131, 1132, 1133, 1134, 1135, 1136, 1137, 1138, 1139, 1140, 1141, 1142, 1143, 1144, 1145, 1146, 1147, 1148, 1149, 1150, 1151, 1152, 1153, 1154, 1155, 1156, 1157, 1158, 1159, 1160, 1161] (by decide +kernel) (by decide +kernel)
set_option maxRecDepth 20000 in
theorem gL_law_X9_init : GoodIn wsL_law (wsX9_init) := ggL_law_X9_init
set_option maxRecDepth 20000 in
theorem ggL_law_X8_feed : GoodIn wsL_law wsX8_feed := goodIn_r _ [128, 129, 130, 131, 132, 2, 133, 13, 1098, 1099, 1100, 1101, 1102, 1103, 1104, 1105, 1106, 1107, 1108, 1109] (by decide +kernel) (by decide +kernel)
set_option maxRecDepth 20000 in
theorem gL_law_X8_feed : GoodIn wsL_law (wsV RL 13 RX8 yX8_feed wsX8_feed) := goodIn_app (goodIn_of _ (by decide +kernel)) ggL_law_X8_feed
set_option maxRecDepth 20000 in
theorem ggL_law_X9_feed : GoodIn wsL_law wsX9_feed := goodIn_r _ [137, 138, 139, 140, 141, 5, 142, 116, 1110, 1111, 1112, 1113, 1114, 1115, 1116, 1117, 1118, 1119, 1120, 1121, 1122, 1123, 1124, 1125, 1126, 1127, 1128, 1129, 1130, 1131, 1132, 1133, 1134, 1135, 1136, 1137, 1138, 1139, 1140, 1141, 1142, 1143, 1144, 1145, 1146, 1147, 1148, 1149, 1150, 1151, 1152, 1153, 1154, 1155, 1156, 1157, 1158, 1159, 1160, 1161] (by decide +kernel) (by decide +kernel)
set_option maxRecDepth 20000 in
theorem gL_law_X9_feed : GoodIn wsL_law (wsV RL 17 RX9 yX9_feed wsX9_feed) := goodIn_app (goodIn_of _ (by decide +kernel)) ggL_law_X9_feed
set_option maxRecDepth 20000 in
theorem ggL_law_X8_back : GoodIn wsL_law wsX8_back := goodIn_r _ [146, 129, 1098, 1099, 1100, 1101, 1102, 1103, 1104, 1105, 1106, 1107, 1108, 1109] (by decide +kernel) (by decide +kernel)
set_option maxRecDepth 20000 in
theorem gL_law_X8_back : GoodIn wsL_law (wsV RL 18 RX8 yX8_back wsX8_back) := goodIn_app (goodIn_of _ (by decide +kernel)) ggL_law_X8_back
set_option maxRecDepth 20000 in
theorem ggL_law_X9_back : GoodIn wsL_law wsX9_back := goodIn_r _ [150, 138, 1110, 1111, 1112, 1113, 1114, 1115, 1116, 1117, 1118, 1119, 1120, 1121, 1122, 1123, 1124, 1125, 1126, 1127, 1128, 1129, 1130, 1131, 1132, 1133, 1134, 1135, 1136, 1137, 1138, 1139, 1140, 1141, 1142, 1143, 1144, 1145, 1146, 1147, 1148, 1149, 1150, 1151, 1152, 1153, 1154, 1155, 1156, 1157, 1158, 1159, 1160, 1161] (by decide +kernel) (by decide +kernel)
set_option maxRecDepth 20000 in
theorem gL_law_X9_back : GoodIn wsL_law (wsV RL 22 RX9 yX9_back wsX9_back) := goodIn_app (goodIn_of _ (by decide +kernel)) ggL_law_X9_back
set_option maxRecDepth 20000 in
theorem ggL_law_X8_read : GoodIn wsL_law wsX8_read := goodIn_r _ [154, 17, 13, 129, 155, 18, 22, 156, 157, 158, 159, 160, 16, 161, 162, 45, 163, 164, 165, 44, 166, 167, 168, 169, 48, 47, 49, 170, 171, 172, 173, 174, 175, 176, 177, 178, 179, 180, 181, 182, 183, 184, 185, 186, 187, 188, 189, 190, 191, 192, 193, 194, 195, 196, 197, 198, 199, 200, 201, 202, 203, 204, 205, 206, 207, 208, 209, 210, 211, 212, 213, 214, 215, 216, 217, 218, 219, 220, 221, 222, 223, 224, 225, 226, 227, 228, 229, 230, 231, 232, 233, 234, 235, 236, 237, 21, 238, 239, 54, 55, 240, 241, 242, 243, 244, 245, 246, 247, 248, 249, 250, 251, 252, 253, 254, 255, 256, 257, 258, 259, 260, 261, 262, 263, 264, 265, 266, 267, 268, 269, 270, 271, 272, 273, 274, 275, 276, 277, 278, 279, 280, 281, 282, 283, 50, 284, 285, 286, 287, 56, 288, 289, 290, 291, 292, 293, 294, 295, 296, 297, 298, 299, 300, 301, 302, 303, 304, 305, 306, 307, 308, 309, 310, 311, 312, 313, 314, 315, 316, 317, 318, 319, 320, 321, 322, 323, 324, 325, 326, 2, 327, 26, 328, 30, 329, 31, 35, 330, 39, 331, 332, 333, 38, 334, 335, 82, 1098, 1099, 1100, 1101, 1102, 1103, 1104, 1105, 1106, 1107, 1108, 1109, 1162, 1163, 1164, 1165, 1166, 1167, 1168, 1169, 1170, 1171, 1172, 1173, 1174, 1175, 1176, 1177, 1178, 1179, 1180, 1181, 1182, 1183, 1184, 1185, 1186, 1187, 1188, 1189, 1190, 1191, 1192, 1193, 1194, 1195, 1196, 1197, 1198, 1199, 1200] (by decide +kernel) (by decide +kernel)
set_option maxRecDepth 20000 in
theorem gL_law_X8_read : GoodIn wsL_law (wsV RL 23 RX8 yX8_read wsX8_read) := goodIn_app (goodIn_of _ (by decide +kernel)) ggL_law_X8_read
set_option maxRecDepth 20000 in
theorem ggL_law_X9_read : GoodIn wsL_law wsX9_read := goodIn_r _ [339, 340, 117, 341, 342, 343, 89, 99, 138, 344, 115, 345, 109, 119, 121, 346, 347, 348, 5, 349, 116, 350, 351, 352, 353, 354, 355, 356, 357, 358, 359, 360, 361, 362, 363, 364, 365, 366, 367, 368, 369, 370, 371, 372, 373, 374, 375, 376, 377, 378, 379, 380, 381, 382, 383, 384, 385, 386, 387, 388, 389, 92, 390, 391, 392, 393, 394, 395, 396, 397, 398, 399, 400, 401, 402, 403, 404, 405, 406, 407, 408, 409, 410, 91, 93, 94, 95, 96, 97, 98, 118, 411, 90, 412, 413, 414, 415, 416, 417, 418, 419, 420, 421, 422, 423, 424, 425, 426, 427, 428, 429, 430, 431, 432, 433, 434, 435, 436, 437, 438, 439, 440, 441, 442, 443, 444, 445, 446, 447, 448, 449, 450, 451, 452, 453, 454, 1110, 1111, 1112, 1113, 1114, 1115, 1116, 1117, 1118, 1119, 1120, 1121, 1122, 1123, 1124, 1125, 1126, 1127, 1128, 1129, 1130, 1131, 1132, 1133, 1134, 1135, 1136, 1137, 1138, 1139, 1140, 1141, 1142, 1143, 1144, 1145, 1146, 1147, 1148, 1149, 1150, 1151, 1152, 1153, 1154, 1155, 1156, 1157, 1158, 1159, 1160, 1161] (by decide +kernel) (by decide +kernel)
set_option maxRecDepth 20000 in
theorem gL_law_X9_read : GoodIn wsL_law (wsV RL 27 RX9 yX9_read wsX9_read) := goodIn_app (goodIn_of _ (by decide +kernel)) ggL_law_X9_read
set_option maxRecDepth 20000 in
theorem ggL_law_X8_place : GoodIn wsL_law wsX8_place := goodIn_r _ [458, 18, 1098, 1099, 1100, 1101, 1102, 1103, 1104, 1105, 1106, 1107, 1108, 1109] (by decide +kernel) (by decide +kernel)
set_option maxRecDepth 20000 in
theorem gL_law_X8_place : GoodIn wsL_law (wsV RL 28 RX8 yX8_place wsX8_place) := goodIn_app (goodIn_of _ (by decide +kernel)) ggL_law_X8_place
set_option maxRecDepth 20000 in
theorem ggL_law_X9_place : GoodIn wsL_law wsX9_place := goodIn_r _ [462, 117, 1110, 1111, 1112, 1113, 1114, 1115, 1116, 1117, 1118, 1119, 1120, 1121, 1122, 1123, 1124, 1125, 1126, 1127, 1128, 1129, 1130, 1131, 1132, 1133, 1134, 1135, 1136, 1137, 1138, 1139, 1140, 1141, 1142, 1143, 1144, 1145, 1146, 1147, 1148, 1149, 1150, 1151, 1152, 1153, 1154, 1155, 1156, 1157, 1158, 1159, 1160, 1161] (by decide +kernel) (by decide +kernel)
set_option maxRecDepth 20000 in
theorem gL_law_X9_place : GoodIn wsL_law (wsV RL 31 RX9 yX9_place wsX9_place) := goodIn_app (goodIn_of _ (by decide +kernel)) ggL_law_X9_place
set_option maxRecDepth 20000 in
theorem ggL_law_X8_ins : GoodIn wsL_law wsX8_ins := goodIn_r _ [466, 22, 467, 468, 469, 470, 2, 471, 157, 472, 473, 321, 322, 21, 323, 56, 288, 289, 290, 1098, 1099, 1100, 1101, 1102, 1103, 1104, 1105, 1106, 1107, 1108, 1109, 1174, 1175, 1176, 1177] (by decide +kernel) (by decide +kernel)
set_option maxRecDepth 20000 in
theorem gL_law_X8_ins : GoodIn wsL_law (wsV RL 32 RX8 yX8_ins wsX8_ins) := goodIn_app (goodIn_of _ (by decide +kernel)) ggL_law_X8_ins
set_option maxRecDepth 20000 in
theorem ggL_law_X9_ins : GoodIn wsL_law wsX9_ins := goodIn_r _ [477, 344, 89, 90, 91, 92, 93, 94, 95, 96, 97, 98, 1110, 1111, 1112, 1113, 1114, 1115, 1116, 1117, 1118, 1119, 1120, 1121, 1122, 1123, 1124, 1125, 1126, 1127, 1128, 1129, 1130, 1131, 1132, 1133, 1134, 1135, 1136, 1137, 1138, 1139, 1140, 1141, 1142, 1143, 1144, 1145, 1146, 1147, 1148, 1149, 1150, 1151, 1152, 1153, 1154, 1155, 1156, 1157, 1158, 1159, 1160, 1161] (by decide +kernel) (by decide +kernel)
set_option maxRecDepth 20000 in
theorem gL_law_X9_ins : GoodIn wsL_law (wsV RL 36 RX9 yX9_ins wsX9_ins) := goodIn_app (goodIn_of _ (by decide +kernel)) ggL_law_X9_ins
set_option maxRecDepth 20000 in
theorem ggL_law_X8_begin : GoodIn wsL_law wsX8_begin := goodIn_r _ [481, 157, 26, 22, 482, 483, 2, 484, 485, 486, 487, 25, 488, 489, 490, 491, 63, 492, 493, 494, 62, 495, 68, 496, 497, 498, 499, 500, 501, 241, 242, 243, 1098, 1099, 1100, 1101, 1102, 1103, 1104, 1105, 1106, 1107, 1108, 1109, 1178, 1179, 1180, 1181, 1182, 1201, 1174, 1175, 1176, 1177] (by decide +kernel) (by decide +kernel)
set_option maxRecDepth 20000 in
theorem gL_law_X8_begin : GoodIn wsL_law (wsV RL 37 RX8 yX8_begin wsX8_begin) := goodIn_app (goodIn_of _ (by decide +kernel)) ggL_law_X8_begin
set_option maxRecDepth 20000 in
theorem ggL_law_X9_begin : GoodIn wsL_law wsX9_begin := goodIn_r _ [505, 344, 115, 345, 506, 507, 508, 5, 509, 112, 99, 510, 511, 512, 513, 113, 1110, 1111, 1112, 1113, 1114, 1115, 1116, 1117, 1118, 1119, 1120, 1121, 1122, 1123, 1124, 1125, 1126, 1127, 1128, 1129, 1130, 1131, 1132, 1133, 1134, 1135, 1136, 1137, 1138, 1139, 1140, 1141, 1142, 1143, 1144, 1145, 1146, 1147, 1148, 1149, 1150, 1151, 1152, 1153, 1154, 1155, 1156, 1157, 1158, 1159, 1160, 1161] (by decide +kernel) (by decide +kernel)
set_option maxRecDepth 20000 in
theorem gL_law_X9_begin : GoodIn wsL_law (wsV RL 41 RX9 yX9_begin wsX9_begin) := goodIn_app (goodIn_of _ (by decide +kernel)) ggL_law_X9_begin
set_option maxRecDepth 20000 in
theorem ggL_law_X8_step : GoodIn wsL_law wsX8_step := goodIn_r _ [517, 26, 328, 22, 518, 519, 520, 25, 521, 491, 63, 490, 64, 522, 523, 524, 62, 525, 526, 527, 528, 529, 530, 531, 68, 532, 533, 534, 535, 536, 321, 322, 21, 323, 56, 288, 289, 290, 537, 538, 539, 540, 541, 542, 543, 544, 545, 546, 547, 548, 549, 550, 551, 497, 498, 499, 500, 552, 553, 554, 555, 556, 557, 558, 559, 560, 561, 562, 563, 564, 565, 566, 567, 568, 569, 570, 571, 572, 573, 574, 575, 576, 577, 578, 579, 580, 581, 582, 1098, 1099, 1100, 1101, 1102, 1103, 1104, 1105, 1106, 1107, 1108, 1109, 1178, 1179, 1180, 1181, 1182, 1174, 1175, 1176, 1177, 1201] (by decide +kernel) (by decide +kernel)
set_option maxRecDepth 20000 in
theorem gL_law_X8_step : GoodIn wsL_law (wsV RL 42 RX8 yX8_step wsX8_step) := goodIn_app (goodIn_of _ (by decide +kernel)) ggL_law_X8_step
set_option maxRecDepth 20000 in
theorem ggL_law_X9_step : GoodIn wsL_law wsX9_step := goodIn_r _ [586, 115, 114, 345, 113, 587, 588, 589, 5, 590, 112, 591, 592, 593, 594, 89, 90, 91, 595, 596, 597, 598, 599, 600, 601, 93, 92, 94, 95, 96, 97, 98, 602, 603, 604, 605, 606, 607, 608, 609, 610, 611, 612, 613, 614, 615, 616, 617, 618, 619, 620, 621, 510, 511, 512, 513, 1110, 1111, 1112, 1113, 1114, 1115, 1116, 1117, 1118, 1119, 1120, 1121, 1122, 1123, 1124, 1125, 1126, 1127, 1128, 1129, 1130, 1131, 1132, 1133, 1134, 1135, 1136, 1137, 1138, 1139, 1140, 1141, 1142, 1143, 1144, 1145, 1146, 1147, 1148, 1149, 1150, 1151, 1152, 1153, 1154, 1155, 1156, 1157, 1158, 1159, 1160, 1161] (by decide +kernel) (by decide +kernel)
set_option maxRecDepth 20000 in
theorem gL_law_X9_step : GoodIn wsL_law (wsV RL 45 RX9 yX9_step wsX9_step) := goodIn_app (goodIn_of _ (by decide +kernel)) ggL_law_X9_step
set_option maxRecDepth 20000 in
theorem ggL_law_X8_undo : GoodIn wsL_law wsX8_undo := goodIn_r _ [625, 26, 328, 22, 626, 627, 628, 25, 629, 491, 63, 64, 490, 492, 493, 494, 62, 495, 68, 496, 497, 498, 499, 500, 501, 241, 242, 243, 543, 544, 545, 546, 547, 548, 549, 550, 551, 552, 553, 554, 555, 556, 532, 533, 534, 535, 557, 289, 21, 290, 558, 559, 560, 561, 528, 529, 530, 531, 562, 563, 564, 565, 566, 567, 568, 569, 570, 571, 572, 573, 574, 575, 576, 577, 578, 579, 580, 581, 582, 1098, 1099, 1100, 1101, 1102, 1103, 1104, 1105, 1106, 1107, 1108, 1109, 1178, 1179, 1180, 1181, 1182, 1201, 1174, 1175, 1176, 1177] (by decide +kernel) (by decide +kernel)
set_option maxRecDepth 20000 in
theorem gL_law_X8_undo : GoodIn wsL_law (wsV RL 46 RX8 yX8_undo wsX8_undo) := goodIn_app (goodIn_of _ (by decide +kernel)) ggL_law_X8_undo
set_option maxRecDepth 20000 in
theorem ggL_law_X9_undo : GoodIn wsL_law wsX9_undo := goodIn_r _ [633, 115, 345, 113, 114, 1110, 1111, 1112, 1113, 1114, 1115, 1116, 1117, 1118, 1119, 1120, 1121, 1122, 1123, 1124, 1125, 1126, 1127, 1128, 1129, 1130, 1131, 1132, 1133, 1134, 1135, 1136, 1137, 1138, 1139, 1140, 1141, 1142, 1143, 1144, 1145, 1146, 1147, 1148, 1149, 1150, 1151, 1152, 1153, 1154, 1155, 1156, 1157, 1158, 1159, 1160, 1161] (by decide +kernel) (by decide +kernel)
set_option maxRecDepth 20000 in
theorem gL_law_X9_undo : GoodIn wsL_law (wsV RL 50 RX9 yX9_undo wsX9_undo) := goodIn_app (goodIn_of _ (by decide +kernel)) ggL_law_X9_undo
set_option maxRecDepth 20000 in
theorem ggL_law_X8_register : GoodIn wsL_law wsX8_register := goodIn_r _ [637, 26, 328, 638, 639, 468, 469, 470, 2, 471, 157, 22, 472, 1098, 1099, 1100, 1101, 1102, 1103, 1104, 1105, 1106, 1107, 1108, 1109, 1178, 1179, 1180, 1181, 1182, 1201, 1174, 1175, 1176, 1177] (by decide +kernel) (by decide +kernel)
set_option maxRecDepth 20000 in
theorem gL_law_X8_register : GoodIn wsL_law (wsV RL 51 RX8 yX8_register wsX8_register) := goodIn_app (goodIn_of _ (by decide +kernel)) ggL_law_X8_register
set_option maxRecDepth 20000 in
theorem ggL_law_X9_register_ : GoodIn wsL_law wsX9_register_ := goodIn_r _ [643, 113, 644, 645, 646, 5, 647, 115, 89, 1110, 1111, 1112, 1113, 1114, 1115, 1116, 1117, 1118, 1119, 1120, 1121, 1122, 1123, 1124, 1125, 1126, 1127, 1128, 1129, 1130, 1131, 1132, 1133, 1134, 1135, 1136, 1137, 1138, 1139, 1140, 1141, 1142, 1143, 1144, 1145, 1146, 1147, 1148, 1149, 1150, 1151, 1152, 1153, 1154, 1155, 1156, 1157, 1158, 1159, 1160, 1161] (by decide +kernel) (by decide +kernel)
set_option maxRecDepth 20000 in
theorem gL_law_X9_register_ : GoodIn wsL_law (wsV RL 55 RX9 yX9_register_ wsX9_register_) := goodIn_app (goodIn_of _ (by decide +kernel)) ggL_law_X9_register_
set_option maxRecDepth 20000 in
theorem ggL_law_X8_memory : GoodIn wsL_law wsX8_memory := goodIn_r _ [651, 26, 328, 638, 639, 1098, 1099, 1100, 1101, 1102, 1103, 1104, 1105, 1106, 1107, 1108, 1109, 1178, 1179, 1180, 1181, 1182, 1201] (by decide +kernel) (by decide +kernel)
set_option maxRecDepth 20000 in
theorem gL_law_X8_memory : GoodIn wsL_law (wsV RL 56 RX8 yX8_memory wsX8_memory) := goodIn_app (goodIn_of _ (by decide +kernel)) ggL_law_X8_memory
set_option maxRecDepth 20000 in
theorem ggL_law_X9_memory : GoodIn wsL_law wsX9_memory := goodIn_r _ [655, 115, 113, 1110, 1111, 1112, 1113, 1114, 1115, 1116, 1117, 1118, 1119, 1120, 1121, 1122, 1123, 1124, 1125, 1126, 1127, 1128, 1129, 1130, 1131, 1132, 1133, 1134, 1135, 1136, 1137, 1138, 1139, 1140, 1141, 1142, 1143, 1144, 1145, 1146, 1147, 1148, 1149, 1150, 1151, 1152, 1153, 1154, 1155, 1156, 1157, 1158, 1159, 1160, 1161] (by decide +kernel) (by decide +kernel)
set_option maxRecDepth 20000 in
theorem gL_law_X9_memory : GoodIn wsL_law (wsV RL 59 RX9 yX9_memory wsX9_memory) := goodIn_app (goodIn_of _ (by decide +kernel)) ggL_law_X9_memory
set_option maxRecDepth 20000 in
theorem ggL_law_X8_next : GoodIn wsL_law wsX8_next := goodIn_r _ [659, 26, 328, 638, 468, 469, 470, 2, 471, 157, 22, 472, 660, 533, 534, 62, 535, 68, 1098, 1099, 1100, 1101, 1102, 1103, 1104, 1105, 1106, 1107, 1108, 1109, 1178, 1179, 1180, 1181, 1182, 1174, 1175, 1176, 1177, 1201] (by decide +kernel) (by decide +kernel)
set_option maxRecDepth 20000 in
theorem gL_law_X8_next : GoodIn wsL_law (wsV RL 60 RX8 yX8_next wsX8_next) := goodIn_app (goodIn_of _ (by decide +kernel)) ggL_law_X8_next
set_option maxRecDepth 20000 in
theorem ggL_law_X9_next : GoodIn wsL_law wsX9_next := goodIn_r _ [664, 113, 644, 645, 646, 5, 647, 115, 89, 1110, 1111, 1112, 1113, 1114, 1115, 1116, 1117, 1118, 1119, 1120, 1121, 1122, 1123, 1124, 1125, 1126, 1127, 1128, 1129, 1130, 1131, 1132, 1133, 1134, 1135, 1136, 1137, 1138, 1139, 1140, 1141, 1142, 1143, 1144, 1145, 1146, 1147, 1148, 1149, 1150, 1151, 1152, 1153, 1154, 1155, 1156, 1157, 1158, 1159, 1160, 1161] (by decide +kernel) (by decide +kernel)
set_option maxRecDepth 20000 in
theorem gL_law_X9_next : GoodIn wsL_law (wsV RL 63 RX9 yX9_next wsX9_next) := goodIn_app (goodIn_of _ (by decide +kernel)) ggL_law_X9_next
set_option maxRecDepth 20000 in
theorem ggL_law_X8_store : GoodIn wsL_law wsX8_store := goodIn_r _ [668, 26, 328, 638, 468, 469, 470, 2, 471, 157, 22, 472, 669, 529, 530, 62, 531, 68, 670, 554, 555, 556, 671, 563, 564, 565, 1098, 1099, 1100, 1101, 1102, 1103, 1104, 1105, 1106, 1107, 1108, 1109, 1178, 1179, 1180, 1181, 1182, 1174, 1175, 1176, 1177, 1201] (by decide +kernel) (by decide +kernel)
set_option maxRecDepth 20000 in
theorem gL_law_X8_store : GoodIn wsL_law (wsV RL 64 RX8 yX8_store wsX8_store) := goodIn_app (goodIn_of _ (by decide +kernel)) ggL_law_X8_store
set_option maxRecDepth 20000 in
theorem ggL_law_X9_store : GoodIn wsL_law wsX9_store := goodIn_r _ [675, 113, 644, 645, 646, 5, 647, 115, 89, 595, 596, 597, 1110, 1111, 1112, 1113, 1114, 1115, 1116, 1117, 1118, 1119, 1120, 1121, 1122, 1123, 1124, 1125, 1126, 1127, 1128, 1129, 1130, 1131, 1132, 1133, 1134, 1135, 1136, 1137, 1138, 1139, 1140, 1141, 1142, 1143, 1144, 1145, 1146, 1147, 1148, 1149, 1150, 1151, 1152, 1153, 1154, 1155, 1156, 1157, 1158, 1159, 1160, 1161] (by decide +kernel) (by decide +kernel)
set_option maxRecDepth 20000 in
theorem gL_law_X9_store : GoodIn wsL_law (wsV RL 67 RX9 yX9_store wsX9_store) := goodIn_app (goodIn_of _ (by decide +kernel)) ggL_law_X9_store
set_option maxRecDepth 20000 in
theorem ggL_law_X8_outcomes : GoodIn wsL_law wsX8_outcomes := goodIn_r _ [679, 157, 680, 681, 482, 483, 2, 484, 682, 683, 684, 685, 30, 31, 329, 22, 686, 687, 688, 689, 690, 691, 692, 693, 694, 695, 696, 10, 11, 46, 697, 698, 699, 61, 62, 700, 701, 702, 703, 704, 705, 65, 66, 67, 68, 706, 707, 708, 709, 710, 711, 712, 713, 498, 499, 500, 714, 241, 242, 243, 715, 716, 717, 526, 718, 493, 494, 495, 496, 497, 501, 719, 720, 721, 722, 723, 724, 725, 726, 727, 728, 729, 730, 731, 732, 733, 734, 735, 736, 737, 738, 739, 740, 741, 742, 743, 744, 745, 746, 747, 748, 749, 750, 751, 752, 753, 754, 755, 756, 757, 758, 759, 527, 760, 761, 762, 763, 764, 765, 766, 767, 768, 523, 524, 525, 528, 529, 530, 531, 532, 533, 534, 535, 536, 321, 322, 21, 323, 56, 288, 289, 290, 537, 538, 539, 540, 541, 542, 769, 544, 545, 546, 547, 548, 549, 550, 551, 552, 553, 554, 555, 556, 557, 558, 559, 560, 561, 562, 563, 564, 565, 566, 567, 568, 569, 570, 571, 572, 573, 574, 575, 576, 577, 578, 579, 580, 581, 582, 770, 771, 772, 29, 773, 774, 775, 776, 777, 778, 779, 72, 780, 781, 782, 783, 784, 785, 786, 787, 788, 789, 790, 791, 792, 793, 794, 795, 796, 797, 798, 799, 800, 1098, 1099, 1100, 1101, 1102, 1103, 1104, 1105, 1106, 1107, 1108, 1109, 1183, 1184, 1185, 1186, 1187, 1202, 1203, 1204, 1205, 1206, 1207, 1208, 1209, 1210, 1211, 1201, 1174, 1175, 1176, 1177] (by decide +kernel) (by decide +kernel)
set_option maxRecDepth 20000 in
theorem gL_law_X8_outcomes : GoodIn wsL_law (wsV RL 68 RX8 yX8_outcomes wsX8_outcomes) := goodIn_app (goodIn_of _ (by decide +kernel)) ggL_law_X8_outcomes
set_option maxRecDepth 20000 in
theorem ggL_law_X9_outcomes : GoodIn wsL_law wsX9_outcomes := goodIn_r _ [804, 344, 111, 805, 806, 807, 5, 808, 109, 108, 809, 810, 811, 812, 106, 105, 101, 110, 506, 507, 508, 509, 112, 99, 813, 814, 815, 816, 104, 102, 103, 817, 818, 819, 820, 821, 822, 823, 824, 825, 826, 827, 828, 829, 591, 592, 593, 594, 89, 90, 91, 595, 596, 597, 598, 599, 600, 601, 93, 92, 94, 95, 96, 97, 98, 602, 603, 604, 605, 606, 607, 608, 609, 610, 611, 612, 613, 614, 615, 616, 617, 618, 619, 620, 621, 830, 831, 832, 833, 834, 835, 836, 837, 838, 839, 840, 841, 842, 843, 844, 845, 846, 847, 848, 849, 1110, 1111, 1112, 1113, 1114, 1115, 1116, 1117, 1118, 1119, 1120, 1121, 1122, 1123, 1124, 1125, 1126, 1127, 1128, 1129, 1130, 1131, 1132, 1133, 1134, 1135, 1136, 1137, 1138, 1139, 1140, 1141, 1142, 1143, 1144, 1145, 1146, 1147, 1148, 1149, 1150, 1151, 1152, 1153, 1154, 1155, 1156, 1157, 1158, 1159, 1160, 1161] (by decide +kernel) (by decide +kernel)
set_option maxRecDepth 20000 in
theorem gL_law_X9_outcomes : GoodIn wsL_law (wsV RL 71 RX9 yX9_outcomes wsX9_outcomes) := goodIn_app (goodIn_of _ (by decide +kernel)) ggL_law_X9_outcomes
set_option maxRecDepth 20000 in
theorem ggL_law_X8_outcome : GoodIn wsL_law wsX8_outcome := goodIn_r _ [853, 157, 482, 483, 2, 484, 682, 683, 684, 685, 30, 31, 329, 22, 686, 687, 688, 689, 690, 691, 692, 693, 694, 695, 696, 10, 11, 46, 697, 698, 699, 61, 62, 700, 701, 702, 703, 704, 705, 65, 66, 67, 68, 706, 707, 708, 709, 710, 711, 712, 713, 498, 499, 500, 714, 241, 242, 243, 715, 716, 717, 526, 718, 493, 494, 495, 496, 497, 501, 719, 720, 721, 722, 723, 724, 725, 726, 727, 728, 729, 730, 731, 732, 733, 734, 735, 736, 737, 738, 739, 740, 741, 742, 743, 744, 745, 746, 747, 748, 749, 750, 751, 752, 753, 754, 755, 756, 757, 758, 759, 527, 760, 761, 762, 763, 764, 765, 766, 767, 768, 523, 524, 525, 528, 529, 530, 531, 532, 533, 534, 535, 536, 321, 322, 21, 323, 56, 288, 289, 290, 537, 538, 539, 540, 541, 542, 769, 544, 545, 546, 547, 548, 549, 550, 551, 552, 553, 554, 555, 556, 557, 558, 559, 560, 561, 562, 563, 564, 565, 566, 567, 568, 569, 570, 571, 572, 573, 574, 575, 576, 577, 578, 579, 580, 581, 582, 770, 771, 772, 29, 773, 774, 775, 776, 777, 778, 779, 72, 780, 781, 782, 783, 784, 785, 786, 787, 788, 789, 790, 791, 792, 793, 794, 795, 796, 797, 798, 799, 800, 854, 855, 856, 857, 858, 859, 860, 861, 1098, 1099, 1100, 1101, 1102, 1103, 1104, 1105, 1106, 1107, 1108, 1109, 1183, 1184, 1185, 1186, 1187, 1202, 1203, 1204, 1205, 1206, 1207, 1208, 1209, 1210, 1211, 1201, 1174, 1175, 1176, 1177] (by decide +kernel) (by decide +kernel)
set_option maxRecDepth 20000 in
theorem gL_law_X8_outcome : GoodIn wsL_law (wsV RL 72 RX8 yX8_outcome wsX8_outcome) := goodIn_app (goodIn_of _ (by decide +kernel)) ggL_law_X8_outcome
set_option maxRecDepth 20000 in
theorem ggL_law_X9_outcome : GoodIn wsL_law wsX9_outcome := goodIn_r _ [865, 110, 866, 867, 868, 5, 869, 344, 111, 805, 806, 807, 808, 109, 108, 809, 810, 811, 812, 106, 105, 101, 506, 507, 508, 509, 112, 99, 813, 814, 815, 816, 104, 102, 103, 817, 818, 819, 820, 821, 822, 823, 824, 825, 826, 827, 828, 829, 591, 592, 593, 594, 89, 90, 91, 595, 596, 597, 598, 599, 600, 601, 93, 92, 94, 95, 96, 97, 98, 602, 603, 604, 605, 606, 607, 608, 609, 610, 611, 612, 613, 614, 615, 616, 617, 618, 619, 620, 621, 830, 831, 832, 833, 834, 835, 836, 837, 838, 839, 840, 841, 842, 843, 844, 845, 846, 847, 848, 849, 1110, 1111, 1112, 1113, 1114, 1115, 1116, 1117, 1118, 1119, 1120, 1121, 1122, 1123, 1124, 1125, 1126, 1127, 1128, 1129, 1130, 1131, 1132, 1133, 1134, 1135, 1136, 1137, 1138, 1139, 1140, 1141, 1142, 1143, 1144, 1145, 1146, 1147, 1148, 1149, 1150, 1151, 1152, 1153, 1154, 1155, 1156, 1157, 1158, 1159, 1160, 1161] (by decide +kernel) (by decide +kernel)
set_option maxRecDepth 20000 in
theorem gL_law_X9_outcome : GoodIn wsL_law (wsV RL 75 RX9 yX9_outcome wsX9_outcome) := goodIn_app (goodIn_of _ (by decide +kernel)) ggL_law_X9_outcome
set_option maxRecDepth 20000 in
theorem ggL_law_X8_schedule : GoodIn wsL_law wsX8_schedule := goodIn_r _ [873, 157, 482, 483, 2, 484, 682, 683, 684, 685, 30, 31, 329, 22, 686, 687, 688, 689, 690, 691, 692, 693, 694, 695, 696, 10, 11, 46, 697, 698, 699, 61, 62, 700, 701, 702, 703, 704, 705, 65, 66, 67, 68, 706, 707, 708, 709, 710, 711, 712, 713, 498, 499, 500, 714, 241, 242, 243, 715, 716, 717, 526, 718, 493, 494, 495, 496, 497, 501, 719, 720, 721, 722, 723, 724, 725, 726, 727, 728, 729, 730, 731, 732, 733, 734, 735, 736, 737, 738, 739, 740, 741, 742, 743, 744, 745, 746, 747, 748, 749, 750, 751, 752, 753, 754, 755, 756, 757, 758, 759, 527, 760, 761, 762, 763, 764, 765, 766, 767, 768, 523, 524, 525, 528, 529, 530, 531, 532, 533, 534, 535, 536, 321, 322, 21, 323, 56, 288, 289, 290, 537, 538, 539, 540, 541, 542, 769, 544, 545, 546, 547, 548, 549, 550, 551, 552, 553, 554, 555, 556, 557, 558, 559, 560, 561, 562, 563, 564, 565, 566, 567, 568, 569, 570, 571, 572, 573, 574, 575, 576, 577, 578, 579, 580, 581, 582, 770, 771, 772, 29, 773, 774, 775, 776, 777, 778, 779, 72, 780, 781, 782, 783, 784, 785, 786, 787, 788, 789, 790, 791, 792, 793, 794, 795, 796, 797, 798, 799, 800, 854, 855, 856, 857, 874, 875, 876, 877, 1098, 1099, 1100, 1101, 1102, 1103, 1104, 1105, 1106, 1107, 1108, 1109, 1183, 1184, 1185, 1186, 1187, 1202, 1203, 1204, 1205, 1206, 1207, 1208, 1209, 1210, 1211, 1201, 1174, 1175, 1176, 1177] (by decide +kernel) (by decide +kernel)
set_option maxRecDepth 20000 in
theorem gL_law_X8_schedule : GoodIn wsL_law (wsV RL 76 RX8 yX8_schedule wsX8_schedule) := goodIn_app (goodIn_of _ (by decide +kernel)) ggL_law_X8_schedule
set_option maxRecDepth 20000 in
theorem ggL_law_X9_schedule : GoodIn wsL_law wsX9_schedule := goodIn_r _ [881, 110, 866, 867, 868, 5, 869, 344, 111, 805, 806, 807, 808, 109, 108, 809, 810, 811, 812, 106, 105, 101, 506, 507, 508, 509, 112, 99, 813, 814, 815, 816, 104, 102, 103, 817, 818, 819, 820, 821, 822, 823, 824, 825, 826, 827, 828, 829, 591, 592, 593, 594, 89, 90, 91, 595, 596, 597, 598, 599, 600, 601, 93, 92, 94, 95, 96, 97, 98, 602, 603, 604, 605, 606, 607, 608, 609, 610, 611, 612, 613, 614, 615, 616, 617, 618, 619, 620, 621, 830, 831, 832, 833, 834, 835, 836, 837, 838, 839, 840, 841, 842, 843, 844, 845, 846, 847, 848, 849, 882, 883, 884, 885, 1110, 1111, 1112, 1113, 1114, 1115, 1116, 1117, 1118, 1119, 1120, 1121, 1122, 1123, 1124, 1125, 1126, 1127, 1128, 1129, 1130, 1131, 1132, 1133, 1134, 1135, 1136, 1137, 1138, 1139, 1140, 1141, 1142, 1143, 1144, 1145, 1146, 1147, 1148, 1149, 1150, 1151, 1152, 1153, 1154, 1155, 1156, 1157, 1158, 1159, 1160, 1161] (by decide +kernel) (by decide +kernel)
set_option maxRecDepth 20000 in
theorem gL_law_X9_schedule : GoodIn wsL_law (wsV RL 79 RX9 yX9_schedule wsX9_schedule) := goodIn_app (goodIn_of _ (by decide +kernel)) ggL_law_X9_schedule
set_option maxRecDepth 20000 in
theorem ggL_law_X8_more : GoodIn wsL_law wsX8_more := goodIn_r _ [889, 157, 680, 682, 683, 684, 2, 685, 30, 31, 329, 22, 686, 687, 688, 689, 690, 691, 692, 693, 694, 695, 696, 10, 11, 46, 697, 698, 699, 61, 62, 700, 701, 702, 703, 704, 705, 65, 66, 67, 68, 706, 707, 708, 709, 710, 711, 712, 713, 498, 499, 500, 714, 241, 242, 243, 715, 716, 717, 526, 718, 493, 494, 495, 496, 497, 501, 719, 720, 721, 722, 723, 724, 725, 726, 727, 728, 729, 730, 731, 732, 733, 734, 735, 736, 737, 738, 739, 740, 741, 742, 743, 744, 745, 746, 747, 748, 749, 750, 751, 752, 753, 754, 755, 756, 757, 758, 759, 527, 760, 761, 762, 763, 764, 765, 766, 767, 768, 523, 524, 525, 528, 529, 530, 531, 532, 533, 534, 535, 536, 321, 322, 21, 323, 56, 288, 289, 290, 537, 538, 539, 540, 541, 542, 769, 544, 545, 546, 547, 548, 549, 550, 551, 552, 553, 554, 555, 556, 557, 558, 559, 560, 561, 562, 563, 564, 565, 566, 567, 568, 569, 570, 571, 572, 573, 574, 575, 576, 577, 578, 579, 580, 581, 582, 770, 771, 772, 29, 773, 774, 775, 776, 777, 778, 779, 72, 780, 781, 782, 783, 784, 785, 786, 787, 788, 789, 790, 791, 792, 793, 794, 795, 796, 797, 798, 799, 800, 890, 891, 892, 893, 894, 895, 896, 897, 898, 859, 860, 861, 899, 900, 901, 902, 1098, 1099, 1100, 1101, 1102, 1103, 1104, 1105, 1106, 1107, 1108, 1109, 1183, 1184, 1185, 1186, 1187, 1202, 1203, 1204, 1205, 1206, 1207, 1208, 1209, 1210, 1211, 1201, 1174, 1175, 1176, 1177] (by decide +kernel) (by decide +kernel)
set_option maxRecDepth 20000 in
theorem gL_law_X8_more : GoodIn wsL_law (wsV RL 80 RX8 yX8_more wsX8_more) := goodIn_app (goodIn_of _ (by decide +kernel)) ggL_law_X8_more
set_option maxRecDepth 20000 in
theorem ggL_law_X9_more : GoodIn wsL_law wsX9_more := goodIn_r _ [906, 344, 111, 805, 806, 807, 5, 808, 109, 108, 809, 810, 811, 812, 106, 105, 101, 110, 506, 507, 508, 509, 112, 99, 813, 814, 815, 816, 104, 102, 103, 817, 818, 819, 820, 821, 822, 823, 824, 825, 826, 827, 828, 829, 591, 592, 593, 594, 89, 90, 91, 595, 596, 597, 598, 599, 600, 601, 93, 92, 94, 95, 96, 97, 98, 602, 603, 604, 605, 606, 607, 608, 609, 610, 611, 612, 613, 614, 615, 616, 617, 618, 619, 620, 621, 830, 831, 832, 833, 834, 835, 836, 837, 838, 839, 840, 841, 842, 843, 844, 845, 846, 847, 848, 849, 907, 908, 909, 910, 1110, 1111, 1112, 1113, 1114, 1115, 1116, 1117, 1118, 1119, 1120, 1121, 1122, 1123, 1124, 1125, 1126, 1127, 1128, 1129, 1130, 1131, 1132, 1133, 1134, 1135, 1136, 1137, 1138, 1139, 1140, 1141, 1142, 1143, 1144, 1145, 1146, 1147, 1148, 1149, 1150, 1151, 1152, 1153, 1154, 1155, 1156, 1157, 1158, 1159, 1160, 1161] (by decide +kernel) (by decide +kernel)
set_option maxRecDepth 20000 in
theorem gL_law_X9_more : GoodIn wsL_law (wsV RL 83 RX9 yX9_more wsX9_more) := goodIn_app (goodIn_of _ (by decide +kernel)) ggL_law_X9_more
set_option maxRecDepth 20000 in
theorem ggL_law_X8_race : GoodIn wsL_law wsX8_race := goodIn_r _ [914, 157, 35, 915, 916, 917, 918, 2, 919, 330, 22, 686, 687, 688, 689, 690, 691, 692, 693, 694, 695, 696, 10, 11, 46, 697, 698, 699, 61, 62, 700, 701, 702, 703, 704, 705, 65, 66, 67, 68, 920, 921, 922, 34, 923, 924, 925, 926, 927, 928, 929, 76, 930, 498, 499, 500, 931, 707, 708, 709, 710, 711, 712, 713, 714, 241, 242, 243, 715, 716, 717, 526, 718, 493, 494, 495, 496, 497, 501, 719, 720, 721, 722, 723, 724, 725, 726, 727, 728, 729, 730, 731, 732, 733, 734, 735, 736, 737, 738, 739, 740, 741, 742, 743, 744, 745, 746, 747, 748, 749, 750, 751, 752, 753, 754, 755, 756, 757, 758, 759, 527, 760, 761, 762, 763, 764, 765, 766, 767, 768, 523, 524, 525, 528, 529, 530, 531, 532, 533, 534, 535, 536, 321, 322, 21, 323, 56, 288, 289, 290, 537, 538, 539, 540, 541, 542, 769, 544, 545, 546, 547, 548, 549, 550, 551, 552, 553, 554, 555, 556, 557, 558, 559, 560, 561, 562, 563, 564, 565, 566, 567, 568, 569, 570, 571, 572, 573, 574, 575, 576, 577, 578, 579, 580, 581, 582, 932, 933, 934, 935, 936, 937, 938, 939, 940, 941, 942, 943, 944, 945, 946, 947, 948, 949, 950, 951, 952, 953, 954, 955, 798, 799, 800, 1098, 1099, 1100, 1101, 1102, 1103, 1104, 1105, 1106, 1107, 1108, 1109, 1188, 1189, 1190, 1191, 1192, 1193, 1194, 1202, 1203, 1204, 1205, 1206, 1207, 1208, 1209, 1210, 1211, 1201, 1174, 1175, 1176, 1177] (by decide +kernel) (by decide +kernel)
set_option maxRecDepth 20000 in
theorem gL_law_X8_race : GoodIn wsL_law (wsV RL 84 RX8 yX8_race wsX8_race) := goodIn_app (goodIn_of _ (by decide +kernel)) ggL_law_X8_race
set_option maxRecDepth 20000 in
theorem ggL_law_X9_race : GoodIn wsL_law wsX9_race := goodIn_r _ [959, 344, 119, 108, 106, 960, 120, 809, 810, 811, 5, 812, 109, 111, 105, 101, 110, 506, 507, 508, 509, 112, 99, 813, 814, 815, 816, 104, 102, 103, 817, 818, 819, 820, 821, 822, 823, 824, 825, 826, 827, 828, 829, 591, 592, 593, 594, 89, 90, 91, 595, 596, 597, 598, 599, 600, 601, 93, 92, 94, 95, 96, 97, 98, 602, 603, 604, 605, 606, 607, 608, 609, 610, 611, 612, 613, 614, 615, 616, 617, 618, 619, 620, 621, 830, 831, 832, 833, 834, 835, 836, 837, 838, 839, 840, 841, 842, 843, 844, 845, 846, 847, 848, 849, 961, 962, 963, 964, 965, 966, 967, 968, 969, 970, 971, 882, 883, 884, 885, 1110, 1111, 1112, 1113, 1114, 1115, 1116, 1117, 1118, 1119, 1120, 1121, 1122, 1123, 1124, 1125, 1126, 1127, 1128, 1129, 1130, 1131, 1132, 1133, 1134, 1135, 1136, 1137, 1138, 1139, 1140, 1141, 1142, 1143, 1144, 1145, 1146, 1147, 1148, 1149, 1150, 1151, 1152, 1153, 1154, 1155, 1156, 1157, 1158, 1159, 1160, 1161] (by decide +kernel) (by decide +kernel)
set_option maxRecDepth 20000 in
theorem gL_law_X9_race : GoodIn wsL_law (wsV RL 87 RX9 yX9_race wsX9_race) := goodIn_app (goodIn_of _ (by decide +kernel)) ggL_law_X9_race
set_option maxRecDepth 20000 in
theorem ggL_law_X8_racer : GoodIn wsL_law wsX8_racer := goodIn_r _ [975, 157, 35, 916, 917, 918, 2, 919, 330, 22, 686, 687, 688, 689, 690, 691, 692, 693, 694, 695, 696, 10, 11, 46, 697, 698, 699, 61, 62, 700, 701, 702, 703, 704, 705, 65, 66, 67, 68, 920, 921, 922, 34, 923, 924, 925, 926, 927, 928, 929, 76, 930, 498, 499, 500, 931, 707, 708, 709, 710, 711, 712, 713, 714, 241, 242, 243, 715, 716, 717, 526, 718, 493, 494, 495, 496, 497, 501, 719, 720, 721, 722, 723, 724, 725, 726, 727, 728, 729, 730, 731, 732, 733, 734, 735, 736, 737, 738, 739, 740, 741, 742, 743, 744, 745, 746, 747, 748, 749, 750, 751, 752, 753, 754, 755, 756, 757, 758, 759, 527, 760, 761, 762, 763, 764, 765, 766, 767, 768, 523, 524, 525, 528, 529, 530, 531, 532, 533, 534, 535, 536, 321, 322, 21, 323, 56, 288, 289, 290, 537, 538, 539, 540, 541, 542, 769, 544, 545, 546, 547, 548, 549, 550, 551, 552, 553, 554, 555, 556, 557, 558, 559, 560, 561, 562, 563, 564, 565, 566, 567, 568, 569, 570, 571, 572, 573, 574, 575, 576, 577, 578, 579, 580, 581, 582, 932, 933, 934, 935, 936, 937, 938, 939, 940, 941, 942, 943, 944, 945, 946, 947, 948, 949, 950, 951, 952, 953, 954, 955, 798, 799, 800, 976, 977, 978, 979, 1098, 1099, 1100, 1101, 1102, 1103, 1104, 1105, 1106, 1107, 1108, 1109, 1188, 1189, 1190, 1191, 1192, 1193, 1194, 1202, 1203, 1204, 1205, 1206, 1207, 1208, 1209, 1210, 1211, 1201, 1174, 1175, 1176, 1177] (by decide +kernel) (by decide +kernel)
set_option maxRecDepth 20000 in
theorem gL_law_X8_racer : GoodIn wsL_law (wsV RL 88 RX8 yX8_racer wsX8_racer) := goodIn_app (goodIn_of _ (by decide +kernel)) ggL_law_X8_racer
set_option maxRecDepth 20000 in
theorem ggL_law_X9_racer : GoodIn wsL_law wsX9_racer := goodIn_r _ [983, 344, 965, 966, 967, 960, 120, 984, 957, 958, 5, 959, 119, 108, 106, 809, 810, 811, 812, 109, 111, 105, 101, 110, 506, 507, 508, 509, 112, 99, 813, 814, 815, 816, 104, 102, 103, 817, 818, 819, 820, 821, 822, 823, 824, 825, 826, 827, 828, 829, 591, 592, 593, 594, 89, 90, 91, 595, 596, 597, 598, 599, 600, 601, 93, 92, 94, 95, 96, 97, 98, 602, 603, 604, 605, 606, 607, 608, 609, 610, 611, 612, 613, 614, 615, 616, 617, 618, 619, 620, 621, 830, 831, 832, 833, 834, 835, 836, 837, 838, 839, 840, 841, 842, 843, 844, 845, 846, 847, 848, 849, 961, 962, 963, 964, 968, 969, 970, 971, 882, 883, 884, 885, 1110, 1111, 1112, 1113, 1114, 1115, 1116, 1117, 1118, 1119, 1120, 1121, 1122, 1123, 1124, 1125, 1126, 1127, 1128, 1129, 1130, 1131, 1132, 1133, 1134, 1135, 1136, 1137, 1138, 1139, 1140, 1141, 1142, 1143, 1144, 1145, 1146, 1147, 1148, 1149, 1150, 1151, 1152, 1153, 1154, 1155, 1156, 1157, 1158, 1159, 1160, 1161] (by decide +kernel) (by decide +kernel)
set_option maxRecDepth 20000 in
theorem gL_law_X9_racer : GoodIn wsL_law (wsV RL 91 RX9 yX9_racer wsX9_racer) := goodIn_app (goodIn_of _ (by decide +kernel)) ggL_law_X9_racer
set_option maxRecDepth 20000 in
theorem ggL_law_X8_cure : GoodIn wsL_law wsX8_cure := goodIn_r _ [988, 157, 39, 22, 682, 683, 684, 2, 685, 30, 31, 329, 686, 687, 688, 689, 690, 691, 692, 693, 694, 695, 696, 10, 11, 46, 697, 698, 699, 61, 62, 700, 701, 702, 703, 704, 705, 65, 66, 67, 68, 706, 707, 708, 709, 710, 711, 712, 713, 498, 499, 500, 714, 241, 242, 243, 715, 716, 717, 526, 718, 493, 494, 495, 496, 497, 501, 719, 720, 721, 722, 723, 724, 725, 726, 727, 728, 729, 730, 731, 732, 733, 734, 735, 736, 737, 738, 739, 740, 741, 742, 743, 744, 745, 746, 747, 748, 749, 750, 751, 752, 753, 754, 755, 756, 757, 758, 759, 527, 760, 761, 762, 763, 764, 765, 766, 767, 768, 523, 524, 525, 528, 529, 530, 531, 532, 533, 534, 535, 536, 321, 322, 21, 323, 56, 288, 289, 290, 537, 538, 539, 540, 541, 542, 769, 544, 545, 546, 547, 548, 549, 550, 551, 552, 553, 554, 555, 556, 557, 558, 559, 560, 561, 562, 563, 564, 565, 566, 567, 568, 569, 570, 571, 572, 573, 574, 575, 576, 577, 578, 579, 580, 581, 582, 770, 771, 772, 29, 773, 774, 775, 776, 777, 778, 779, 72, 780, 781, 782, 783, 784, 785, 786, 787, 788, 789, 790, 791, 792, 793, 794, 795, 796, 797, 798, 799, 800, 989, 990, 991, 38, 992, 335, 82, 993, 994, 83, 84, 995, 996, 997, 998, 999, 81, 1000, 1001, 1002, 1003, 239, 54, 1004, 1005, 1006, 1007, 1008, 1009, 1010, 1011, 1012, 1013, 1014, 55, 1015, 1016, 236, 237, 238, 240, 1017, 1018, 1019, 1020, 1021, 285, 286, 287, 1022, 1023, 1024, 1025, 1026, 1027, 1028, 1029, 1030, 1031, 1032, 1033, 1034, 898, 859, 860, 861, 1098, 1099, 1100, 1101, 1102, 1103, 1104, 1105, 1106, 1107, 1108, 1109, 1183, 1184, 1185, 1186, 1187, 1202, 1203, 1204, 1205, 1206, 1207, 1208, 1209, 1210, 1211, 1201, 1174, 1175, 1176, 1177, 1195, 1196, 1197, 1198, 1199, 1200] (by decide +kernel) (by decide +kernel)
set_option maxRecDepth 20000 in
theorem gL_law_X8_cure : GoodIn wsL_law (wsV RL 92 RX8 yX8_cure wsX8_cure) := goodIn_app (goodIn_of _ (by decide +kernel)) ggL_law_X8_cure
set_option maxRecDepth 20000 in
theorem ggL_law_X9_cure : GoodIn wsL_law wsX9_cure := goodIn_r _ [1038, 344, 1039, 123, 121, 122, 805, 806, 807, 5, 808, 109, 108, 809, 810, 811, 812, 106, 111, 105, 101, 110, 506, 507, 508, 509, 112, 99, 813, 814, 815, 816, 104, 102, 103, 817, 818, 819, 820, 821, 822, 823, 824, 825, 826, 827, 828, 829, 591, 592, 593, 594, 89, 90, 91, 595, 596, 597, 598, 599, 600, 601, 93, 92, 94, 95, 96, 97, 98, 602, 603, 604, 605, 606, 607, 608, 609, 610, 611, 612, 613, 614, 615, 616, 617, 618, 619, 620, 621, 830, 831, 832, 833, 834, 835, 836, 837, 838, 839, 840, 841, 842, 843, 844, 845, 846, 847, 848, 849, 1040, 1041, 1042, 1043, 1044, 1045, 1046, 1047, 1048, 1049, 1050, 1051, 124, 1052, 1053, 1054, 451, 452, 453, 454, 1055, 1056, 1057, 1058, 1110, 1111, 1112, 1113, 1114, 1115, 1116, 1117, 1118, 1119, 1120, 1121, 1122, 1123, 1124, 1125, 1126, 1127, 1128, 1129, 1130, 1131, 1132, 1133, 1134, 1135, 1136, 1137, 1138, 1139, 1140, 1141, 1142, 1143, 1144, 1145, 1146, 1147, 1148, 1149, 1150, 1151, 1152, 1153, 1154, 1155, 1156, 1157, 1158, 1159, 1160, 1161] (by decide +kernel) (by decide +kernel)
set_option maxRecDepth 20000 in
theorem gL_law_X9_cure : GoodIn wsL_law (wsV RL 95 RX9 yX9_cure wsX9_cure) := goodIn_app (goodIn_of _ (by decide +kernel)) ggL_law_X9_cure
set_option maxRecDepth 20000 in
theorem ggL_law_X8_cured : GoodIn wsL_law wsX8_cured := goodIn_r _ [1062, 39, 1063, 1064, 1065, 38, 1066, 994, 84, 1098, 1099, 1100, 1101, 1102, 1103, 1104, 1105, 1106, 1107, 1108, 1109, 1195, 1196, 1197, 1198, 1199, 1200] (by decide +kernel) (by decide +kernel)
set_option maxRecDepth 20000 in
theorem gL_law_X8_cured : GoodIn wsL_law (wsV RL 96 RX8 yX8_cured wsX8_cured) := goodIn_app (goodIn_of _ (by decide +kernel)) ggL_law_X8_cured
set_option maxRecDepth 20000 in
theorem ggL_law_X9_cured : GoodIn wsL_law wsX9_cured := goodIn_r _ [1070, 344, 121, 122, 1110, 1111, 1112, 1113, 1114, 1115, 1116, 1117, 1118, 1119, 1120, 1121, 1122, 1123, 1124, 1125, 1126, 1127, 1128, 1129, 1130, 1131, 1132, 1133, 1134, 1135, 1136, 1137, 1138, 1139, 1140, 1141, 1142, 1143, 1144, 1145, 1146, 1147, 1148, 1149, 1150, 1151, 1152, 1153, 1154, 1155, 1156, 1157, 1158, 1159, 1160, 1161] (by decide +kernel) (by decide +kernel)
set_option maxRecDepth 20000 in
theorem gL_law_X9_cured : GoodIn wsL_law (wsV RL 99 RX9 yX9_cured wsX9_cured) := goodIn_app (goodIn_of _ (by decide +kernel)) ggL_law_X9_cured
set_option maxRecDepth 20000 in
theorem ggL_law_X8_count : GoodIn wsL_law wsX8_count := goodIn_r _ [1074, 129, 157, 1075, 1076, 1077, 2, 1078, 22, 472, 26, 328, 1079, 638, 1080, 1081, 1082, 21, 1083, 239, 54, 682, 683, 684, 685, 30, 31, 329, 686, 687, 688, 689, 690, 691, 692, 693, 694, 695, 696, 10, 11, 46, 697, 698, 699, 61, 62, 700, 701, 702, 703, 704, 705, 65, 66, 67, 68, 706, 707, 708, 709, 710, 711, 712, 713, 498, 499, 500, 714, 241, 242, 243, 715, 716, 717, 526, 718, 493, 494, 495, 496, 497, 501, 719, 720, 721, 722, 723, 724, 725, 726, 727, 728, 729, 730, 731, 732, 733, 734, 735, 736, 737, 738, 739, 740, 741, 742, 743, 744, 745, 746, 747, 748, 749, 750, 751, 752, 753, 754, 755, 756, 757, 758, 759, 527, 760, 761, 762, 763, 764, 765, 766, 767, 768, 523, 524, 525, 528, 529, 530, 531, 532, 533, 534, 535, 536, 321, 322, 323, 56, 288, 289, 290, 537, 538, 539, 540, 541, 542, 769, 544, 545, 546, 547, 548, 549, 550, 551, 552, 553, 554, 555, 556, 557, 558, 559, 560, 561, 562, 563, 564, 565, 566, 567, 568, 569, 570, 571, 572, 573, 574, 575, 576, 577, 578, 579, 580, 581, 582, 770, 771, 772, 29, 773, 774, 775, 776, 777, 778, 779, 72, 780, 781, 782, 783, 784, 785, 786, 787, 788, 789, 790, 791, 792, 793, 794, 795, 796, 797, 798, 799, 800, 1084, 1085, 1086, 1087, 1088, 1089, 1090, 1091, 1092, 1093, 1001, 1002, 1003, 1004, 1005, 1006, 1098, 1099, 1100, 1101, 1102, 1103, 1104, 1105, 1106, 1107, 1108, 1109, 1174, 1175, 1176, 1177, 1178, 1179, 1180, 1181, 1182, 1183, 1184, 1185, 1186, 1187, 1202, 1203, 1204, 1205, 1206, 1207, 1208, 1209, 1210, 1211, 1201] (by decide +kernel) (by decide +kernel)
set_option maxRecDepth 20000 in
theorem gL_law_X8_count : GoodIn wsL_law (wsV RL 100 RX8 yX8_count wsX8_count) := goodIn_app (goodIn_of _ (by decide +kernel)) ggL_law_X8_count
set_option maxRecDepth 20000 in
theorem ggL_law_X9_count : GoodIn wsL_law wsX9_count := goodIn_r _ [1097, 138, 344, 89, 90, 106, 111, 115, 345, 113, 1039, 805, 806, 807, 5, 808, 109, 108, 809, 810, 811, 812, 105, 101, 110, 506, 507, 508, 509, 112, 99, 813, 814, 815, 816, 104, 102, 103, 817, 818, 819, 820, 821, 822, 823, 824, 825, 826, 827, 828, 829, 591, 592, 593, 594, 91, 595, 596, 597, 598, 599, 600, 601, 93, 92, 94, 95, 96, 97, 98, 602, 603, 604, 605, 606, 607, 608, 609, 610, 611, 612, 613, 614, 615, 616, 617, 618, 619, 620, 621, 830, 831, 832, 833, 834, 835, 836, 837, 838, 839, 840, 841, 842, 843, 844, 845, 846, 847, 848, 849, 1040, 1041, 1042, 1043, 123, 1110, 1111, 1112, 1113, 1114, 1115, 1116, 1117, 1118, 1119, 1120, 1121, 1122, 1123, 1124, 1125, 1126, 1127, 1128, 1129, 1130, 1131, 1132, 1133, 1134, 1135, 1136, 1137, 1138, 1139, 1140, 1141, 1142, 1143, 1144, 1145, 1146, 1147, 1148, 1149, 1150, 1151, 1152, 1153, 1154, 1155, 1156, 1157, 1158, 1159, 1160, 1161] (by decide +kernel) (by decide +kernel)
set_option maxRecDepth 20000 in
theorem gL_law_X9_count : GoodIn wsL_law (wsV RL 103 RX9 yX9_count wsX9_count) := goodIn_app (goodIn_of _ (by decide +kernel)) ggL_law_X9_count
theorem dL_law_0 : decode cL_law 0 = .ok (.new 7, 3) := by decide +kernel
theorem dL_law_3 : decode cL_law 3 = .ok (.dup, 1) := by decide +kernel
theorem dL_law_4 : decode cL_law 4 = .ok (.invokespecial 9, 3) := by decide +kernel
theorem dL_law_7 : decode cL_law 7 = .ok (.astore_n 1, 1) := by decide +kernel
theorem dL_law_8 : decode cL_law 8 = .ok (.new 10, 3) := by decide +kernel
theorem dL_law_11 : decode cL_law 11 = .ok (.dup, 1) := by decide +kernel
theorem dL_law_12 : decode cL_law 12 = .ok (.invokespecial 12, 3) := by decide +kernel
theorem dL_law_15 : decode cL_law 15 = .ok (.astore_n 2, 1) := by decide +kernel
theorem dL_law_16 : decode cL_law 16 = .ok (.iconst 0, 1) := by decide +kernel
theorem dL_law_17 : decode cL_law 17 = .ok (.istore_n 3, 1) := by decide +kernel
theorem dL_law_18 : decode cL_law 18 = .ok (.iload_n 3, 1) := by decide +kernel
theorem dL_law_19 : decode cL_law 19 = .ok (.aload_n 0, 1) := by decide +kernel
theorem dL_law_20 : decode cL_law 20 = .ok (.arraylength, 1) := by decide +kernel
theorem dL_law_21 : decode cL_law 21 = .ok (.bipush 6, 2) := by decide +kernel
theorem dL_law_23 : decode cL_law 23 = .ok (.isub, 1) := by decide +kernel
theorem dL_law_24 : decode cL_law 24 = .ok (.if_icmp .gt 687, 3) := by decide +kernel
theorem dL_law_27 : decode cL_law 27 = .ok (.aload_n 0, 1) := by decide +kernel
theorem dL_law_28 : decode cL_law 28 = .ok (.iload_n 3, 1) := by decide +kernel
theorem dL_law_29 : decode cL_law 29 = .ok (.iaload, 1) := by decide +kernel
theorem dL_law_30 : decode cL_law 30 = .ok (.bipush 31, 2) := by decide +kernel
theorem dL_law_32 : decode cL_law 32 = .ok (.iand, 1) := by decide +kernel
theorem dL_law_33 : decode cL_law 33 = .ok (.tableswitch 672 0 20 #[99, 162, 185, 198, 211, 254, 277, 300, 313, 346, 369, 392, 435, 458, 501, 544, 567, 580, 603, 626, 649], 99) := by decide +kernel
theorem dL_law_132 : decode cL_law 132 = .ok (.aload_n 1, 1) := by decide +kernel
theorem dL_law_133 : decode cL_law 133 = .ok (.aload_n 0, 1) := by decide +kernel
theorem dL_law_134 : decode cL_law 134 = .ok (.iload_n 3, 1) := by decide +kernel
theorem dL_law_135 : decode cL_law 135 = .ok (.iconst 1, 1) := by decide +kernel
theorem dL_law_136 : decode cL_law 136 = .ok (.iadd, 1) := by decide +kernel
theorem dL_law_137 : decode cL_law 137 = .ok (.iaload, 1) := by decide +kernel
theorem dL_law_138 : decode cL_law 138 = .ok (.aload_n 0, 1) := by decide +kernel
theorem dL_law_139 : decode cL_law 139 = .ok (.iload_n 3, 1) := by decide +kernel
theorem dL_law_140 : decode cL_law 140 = .ok (.iconst 2, 1) := by decide +kernel
theorem dL_law_141 : decode cL_law 141 = .ok (.iadd, 1) := by decide +kernel
theorem dL_law_142 : decode cL_law 142 = .ok (.iaload, 1) := by decide +kernel
theorem dL_law_143 : decode cL_law 143 = .ok (.aload_n 0, 1) := by decide +kernel
theorem dL_law_144 : decode cL_law 144 = .ok (.iload_n 3, 1) := by decide +kernel
theorem dL_law_145 : decode cL_law 145 = .ok (.iconst 3, 1) := by decide +kernel
theorem dL_law_146 : decode cL_law 146 = .ok (.iadd, 1) := by decide +kernel
theorem dL_law_147 : decode cL_law 147 = .ok (.iaload, 1) := by decide +kernel
theorem dL_law_148 : decode cL_law 148 = .ok (.aload_n 0, 1) := by decide +kernel
theorem dL_law_149 : decode cL_law 149 = .ok (.iload_n 3, 1) := by decide +kernel
theorem dL_law_150 : decode cL_law 150 = .ok (.iconst 4, 1) := by decide +kernel
theorem dL_law_151 : decode cL_law 151 = .ok (.iadd, 1) := by decide +kernel
theorem dL_law_152 : decode cL_law 152 = .ok (.iaload, 1) := by decide +kernel
theorem dL_law_153 : decode cL_law 153 = .ok (.aload_n 0, 1) := by decide +kernel
theorem dL_law_154 : decode cL_law 154 = .ok (.iload_n 3, 1) := by decide +kernel
theorem dL_law_155 : decode cL_law 155 = .ok (.iconst 5, 1) := by decide +kernel
theorem dL_law_156 : decode cL_law 156 = .ok (.iadd, 1) := by decide +kernel
theorem dL_law_157 : decode cL_law 157 = .ok (.iaload, 1) := by decide +kernel
theorem dL_law_158 : decode cL_law 158 = .ok (.invokevirtual 13, 3) := by decide +kernel
theorem dL_law_161 : decode cL_law 161 = .ok (.aload_n 2, 1) := by decide +kernel
theorem dL_law_162 : decode cL_law 162 = .ok (.aload_n 0, 1) := by decide +kernel
theorem dL_law_163 : decode cL_law 163 = .ok (.iload_n 3, 1) := by decide +kernel
theorem dL_law_164 : decode cL_law 164 = .ok (.iconst 1, 1) := by decide +kernel
theorem dL_law_165 : decode cL_law 165 = .ok (.iadd, 1) := by decide +kernel
theorem dL_law_166 : decode cL_law 166 = .ok (.iaload, 1) := by decide +kernel
theorem dL_law_167 : decode cL_law 167 = .ok (.aload_n 0, 1) := by decide +kernel
theorem dL_law_168 : decode cL_law 168 = .ok (.iload_n 3, 1) := by decide +kernel
theorem dL_law_169 : decode cL_law 169 = .ok (.iconst 2, 1) := by decide +kernel
theorem dL_law_170 : decode cL_law 170 = .ok (.iadd, 1) := by decide +kernel
theorem dL_law_171 : decode cL_law 171 = .ok (.iaload, 1) := by decide +kernel
theorem dL_law_172 : decode cL_law 172 = .ok (.aload_n 0, 1) := by decide +kernel
theorem dL_law_173 : decode cL_law 173 = .ok (.iload_n 3, 1) := by decide +kernel
theorem dL_law_174 : decode cL_law 174 = .ok (.iconst 3, 1) := by decide +kernel
theorem dL_law_175 : decode cL_law 175 = .ok (.iadd, 1) := by decide +kernel
theorem dL_law_176 : decode cL_law 176 = .ok (.iaload, 1) := by decide +kernel
theorem dL_law_177 : decode cL_law 177 = .ok (.aload_n 0, 1) := by decide +kernel
theorem dL_law_178 : decode cL_law 178 = .ok (.iload_n 3, 1) := by decide +kernel
theorem dL_law_179 : decode cL_law 179 = .ok (.iconst 4, 1) := by decide +kernel
theorem dL_law_180 : decode cL_law 180 = .ok (.iadd, 1) := by decide +kernel
theorem dL_law_181 : decode cL_law 181 = .ok (.iaload, 1) := by decide +kernel
theorem dL_law_182 : decode cL_law 182 = .ok (.aload_n 0, 1) := by decide +kernel
theorem dL_law_183 : decode cL_law 183 = .ok (.iload_n 3, 1) := by decide +kernel
theorem dL_law_184 : decode cL_law 184 = .ok (.iconst 5, 1) := by decide +kernel
theorem dL_law_185 : decode cL_law 185 = .ok (.iadd, 1) := by decide +kernel
theorem dL_law_186 : decode cL_law 186 = .ok (.iaload, 1) := by decide +kernel
theorem dL_law_187 : decode cL_law 187 = .ok (.invokevirtual 17, 3) := by decide +kernel
theorem dL_law_190 : decode cL_law 190 = .ok (.if_icmp .eq 515, 3) := by decide +kernel
theorem dL_law_193 : decode cL_law 193 = .ok (.iconst 0, 1) := by decide +kernel
theorem dL_law_194 : decode cL_law 194 = .ok (.ireturn, 1) := by decide +kernel
theorem dL_law_195 : decode cL_law 195 = .ok (.aload_n 1, 1) := by decide +kernel
theorem dL_law_196 : decode cL_law 196 = .ok (.aload_n 0, 1) := by decide +kernel
theorem dL_law_197 : decode cL_law 197 = .ok (.iload_n 3, 1) := by decide +kernel
theorem dL_law_198 : decode cL_law 198 = .ok (.iconst 1, 1) := by decide +kernel
theorem dL_law_199 : decode cL_law 199 = .ok (.iadd, 1) := by decide +kernel
theorem dL_law_200 : decode cL_law 200 = .ok (.iaload, 1) := by decide +kernel
theorem dL_law_201 : decode cL_law 201 = .ok (.invokevirtual 18, 3) := by decide +kernel
theorem dL_law_204 : decode cL_law 204 = .ok (.aload_n 2, 1) := by decide +kernel
theorem dL_law_205 : decode cL_law 205 = .ok (.aload_n 0, 1) := by decide +kernel
theorem dL_law_206 : decode cL_law 206 = .ok (.iload_n 3, 1) := by decide +kernel
theorem dL_law_207 : decode cL_law 207 = .ok (.iconst 1, 1) := by decide +kernel
theorem dL_law_208 : decode cL_law 208 = .ok (.iadd, 1) := by decide +kernel
theorem dL_law_209 : decode cL_law 209 = .ok (.iaload, 1) := by decide +kernel
theorem dL_law_210 : decode cL_law 210 = .ok (.invokevirtual 22, 3) := by decide +kernel
theorem dL_law_213 : decode cL_law 213 = .ok (.if_icmp .eq 492, 3) := by decide +kernel
theorem dL_law_216 : decode cL_law 216 = .ok (.iconst 0, 1) := by decide +kernel
theorem dL_law_217 : decode cL_law 217 = .ok (.ireturn, 1) := by decide +kernel
theorem dL_law_218 : decode cL_law 218 = .ok (.aload_n 1, 1) := by decide +kernel
theorem dL_law_219 : decode cL_law 219 = .ok (.invokevirtual 23, 3) := by decide +kernel
theorem dL_law_222 : decode cL_law 222 = .ok (.aload_n 2, 1) := by decide +kernel
theorem dL_law_223 : decode cL_law 223 = .ok (.invokevirtual 27, 3) := by decide +kernel
theorem dL_law_226 : decode cL_law 226 = .ok (.if_icmp .eq 479, 3) := by decide +kernel
theorem dL_law_229 : decode cL_law 229 = .ok (.iconst 0, 1) := by decide +kernel
theorem dL_law_230 : decode cL_law 230 = .ok (.ireturn, 1) := by decide +kernel
theorem dL_law_231 : decode cL_law 231 = .ok (.aload_n 1, 1) := by decide +kernel
theorem dL_law_232 : decode cL_law 232 = .ok (.invokevirtual 28, 3) := by decide +kernel
theorem dL_law_235 : decode cL_law 235 = .ok (.aload_n 2, 1) := by decide +kernel
theorem dL_law_236 : decode cL_law 236 = .ok (.invokevirtual 31, 3) := by decide +kernel
theorem dL_law_239 : decode cL_law 239 = .ok (.if_icmp .eq 466, 3) := by decide +kernel
theorem dL_law_242 : decode cL_law 242 = .ok (.iconst 0, 1) := by decide +kernel
theorem dL_law_243 : decode cL_law 243 = .ok (.ireturn, 1) := by decide +kernel
theorem dL_law_244 : decode cL_law 244 = .ok (.aload_n 1, 1) := by decide +kernel
theorem dL_law_245 : decode cL_law 245 = .ok (.aload_n 0, 1) := by decide +kernel
theorem dL_law_246 : decode cL_law 246 = .ok (.iload_n 3, 1) := by decide +kernel
theorem dL_law_247 : decode cL_law 247 = .ok (.iconst 1, 1) := by decide +kernel
theorem dL_law_248 : decode cL_law 248 = .ok (.iadd, 1) := by decide +kernel
theorem dL_law_249 : decode cL_law 249 = .ok (.iaload, 1) := by decide +kernel
theorem dL_law_250 : decode cL_law 250 = .ok (.aload_n 0, 1) := by decide +kernel
theorem dL_law_251 : decode cL_law 251 = .ok (.iload_n 3, 1) := by decide +kernel
theorem dL_law_252 : decode cL_law 252 = .ok (.iconst 2, 1) := by decide +kernel
theorem dL_law_253 : decode cL_law 253 = .ok (.iadd, 1) := by decide +kernel
theorem dL_law_254 : decode cL_law 254 = .ok (.iaload, 1) := by decide +kernel
theorem dL_law_255 : decode cL_law 255 = .ok (.aload_n 0, 1) := by decide +kernel
theorem dL_law_256 : decode cL_law 256 = .ok (.iload_n 3, 1) := by decide +kernel
theorem dL_law_257 : decode cL_law 257 = .ok (.iconst 3, 1) := by decide +kernel
theorem dL_law_258 : decode cL_law 258 = .ok (.iadd, 1) := by decide +kernel
theorem dL_law_259 : decode cL_law 259 = .ok (.iaload, 1) := by decide +kernel
theorem dL_law_260 : decode cL_law 260 = .ok (.invokevirtual 32, 3) := by decide +kernel
theorem dL_law_263 : decode cL_law 263 = .ok (.aload_n 2, 1) := by decide +kernel
theorem dL_law_264 : decode cL_law 264 = .ok (.aload_n 0, 1) := by decide +kernel
theorem dL_law_265 : decode cL_law 265 = .ok (.iload_n 3, 1) := by decide +kernel
theorem dL_law_266 : decode cL_law 266 = .ok (.iconst 1, 1) := by decide +kernel
theorem dL_law_267 : decode cL_law 267 = .ok (.iadd, 1) := by decide +kernel
theorem dL_law_268 : decode cL_law 268 = .ok (.iaload, 1) := by decide +kernel
theorem dL_law_269 : decode cL_law 269 = .ok (.aload_n 0, 1) := by decide +kernel
theorem dL_law_270 : decode cL_law 270 = .ok (.iload_n 3, 1) := by decide +kernel
theorem dL_law_271 : decode cL_law 271 = .ok (.iconst 2, 1) := by decide +kernel
theorem dL_law_272 : decode cL_law 272 = .ok (.iadd, 1) := by decide +kernel
theorem dL_law_273 : decode cL_law 273 = .ok (.iaload, 1) := by decide +kernel
theorem dL_law_274 : decode cL_law 274 = .ok (.aload_n 0, 1) := by decide +kernel
theorem dL_law_275 : decode cL_law 275 = .ok (.iload_n 3, 1) := by decide +kernel
theorem dL_law_276 : decode cL_law 276 = .ok (.iconst 3, 1) := by decide +kernel
theorem dL_law_277 : decode cL_law 277 = .ok (.iadd, 1) := by decide +kernel
theorem dL_law_278 : decode cL_law 278 = .ok (.iaload, 1) := by decide +kernel
theorem dL_law_279 : decode cL_law 279 = .ok (.invokevirtual 36, 3) := by decide +kernel
theorem dL_law_282 : decode cL_law 282 = .ok (.if_icmp .eq 423, 3) := by decide +kernel
theorem dL_law_285 : decode cL_law 285 = .ok (.iconst 0, 1) := by decide +kernel
theorem dL_law_286 : decode cL_law 286 = .ok (.ireturn, 1) := by decide +kernel
theorem dL_law_287 : decode cL_law 287 = .ok (.aload_n 1, 1) := by decide +kernel
theorem dL_law_288 : decode cL_law 288 = .ok (.aload_n 0, 1) := by decide +kernel
theorem dL_law_289 : decode cL_law 289 = .ok (.iload_n 3, 1) := by decide +kernel
theorem dL_law_290 : decode cL_law 290 = .ok (.iconst 1, 1) := by decide +kernel
theorem dL_law_291 : decode cL_law 291 = .ok (.iadd, 1) := by decide +kernel
theorem dL_law_292 : decode cL_law 292 = .ok (.iaload, 1) := by decide +kernel
theorem dL_law_293 : decode cL_law 293 = .ok (.invokevirtual 37, 3) := by decide +kernel
theorem dL_law_296 : decode cL_law 296 = .ok (.aload_n 2, 1) := by decide +kernel
theorem dL_law_297 : decode cL_law 297 = .ok (.aload_n 0, 1) := by decide +kernel
theorem dL_law_298 : decode cL_law 298 = .ok (.iload_n 3, 1) := by decide +kernel
theorem dL_law_299 : decode cL_law 299 = .ok (.iconst 1, 1) := by decide +kernel
theorem dL_law_300 : decode cL_law 300 = .ok (.iadd, 1) := by decide +kernel
theorem dL_law_301 : decode cL_law 301 = .ok (.iaload, 1) := by decide +kernel
theorem dL_law_302 : decode cL_law 302 = .ok (.invokevirtual 41, 3) := by decide +kernel
theorem dL_law_305 : decode cL_law 305 = .ok (.if_icmp .eq 400, 3) := by decide +kernel
theorem dL_law_308 : decode cL_law 308 = .ok (.iconst 0, 1) := by decide +kernel
theorem dL_law_309 : decode cL_law 309 = .ok (.ireturn, 1) := by decide +kernel
theorem dL_law_310 : decode cL_law 310 = .ok (.aload_n 1, 1) := by decide +kernel
theorem dL_law_311 : decode cL_law 311 = .ok (.aload_n 0, 1) := by decide +kernel
theorem dL_law_312 : decode cL_law 312 = .ok (.iload_n 3, 1) := by decide +kernel
theorem dL_law_313 : decode cL_law 313 = .ok (.iconst 1, 1) := by decide +kernel
theorem dL_law_314 : decode cL_law 314 = .ok (.iadd, 1) := by decide +kernel
theorem dL_law_315 : decode cL_law 315 = .ok (.iaload, 1) := by decide +kernel
theorem dL_law_316 : decode cL_law 316 = .ok (.invokevirtual 42, 3) := by decide +kernel
theorem dL_law_319 : decode cL_law 319 = .ok (.aload_n 2, 1) := by decide +kernel
theorem dL_law_320 : decode cL_law 320 = .ok (.aload_n 0, 1) := by decide +kernel
theorem dL_law_321 : decode cL_law 321 = .ok (.iload_n 3, 1) := by decide +kernel
theorem dL_law_322 : decode cL_law 322 = .ok (.iconst 1, 1) := by decide +kernel
theorem dL_law_323 : decode cL_law 323 = .ok (.iadd, 1) := by decide +kernel
theorem dL_law_324 : decode cL_law 324 = .ok (.iaload, 1) := by decide +kernel
theorem dL_law_325 : decode cL_law 325 = .ok (.invokevirtual 45, 3) := by decide +kernel
theorem dL_law_328 : decode cL_law 328 = .ok (.if_icmp .eq 377, 3) := by decide +kernel
theorem dL_law_331 : decode cL_law 331 = .ok (.iconst 0, 1) := by decide +kernel
theorem dL_law_332 : decode cL_law 332 = .ok (.ireturn, 1) := by decide +kernel
theorem dL_law_333 : decode cL_law 333 = .ok (.aload_n 1, 1) := by decide +kernel
theorem dL_law_334 : decode cL_law 334 = .ok (.invokevirtual 46, 3) := by decide +kernel
theorem dL_law_337 : decode cL_law 337 = .ok (.aload_n 2, 1) := by decide +kernel
theorem dL_law_338 : decode cL_law 338 = .ok (.invokevirtual 50, 3) := by decide +kernel
theorem dL_law_341 : decode cL_law 341 = .ok (.if_icmp .eq 364, 3) := by decide +kernel
theorem dL_law_344 : decode cL_law 344 = .ok (.iconst 0, 1) := by decide +kernel
theorem dL_law_345 : decode cL_law 345 = .ok (.ireturn, 1) := by decide +kernel
theorem dL_law_346 : decode cL_law 346 = .ok (.aload_n 1, 1) := by decide +kernel
theorem dL_law_347 : decode cL_law 347 = .ok (.aload_n 0, 1) := by decide +kernel
theorem dL_law_348 : decode cL_law 348 = .ok (.iload_n 3, 1) := by decide +kernel
theorem dL_law_349 : decode cL_law 349 = .ok (.iconst 1, 1) := by decide +kernel
theorem dL_law_350 : decode cL_law 350 = .ok (.iadd, 1) := by decide +kernel
theorem dL_law_351 : decode cL_law 351 = .ok (.iaload, 1) := by decide +kernel
theorem dL_law_352 : decode cL_law 352 = .ok (.aload_n 0, 1) := by decide +kernel
theorem dL_law_353 : decode cL_law 353 = .ok (.iload_n 3, 1) := by decide +kernel
theorem dL_law_354 : decode cL_law 354 = .ok (.iconst 2, 1) := by decide +kernel
theorem dL_law_355 : decode cL_law 355 = .ok (.iadd, 1) := by decide +kernel
theorem dL_law_356 : decode cL_law 356 = .ok (.iaload, 1) := by decide +kernel
theorem dL_law_357 : decode cL_law 357 = .ok (.invokevirtual 51, 3) := by decide +kernel
theorem dL_law_360 : decode cL_law 360 = .ok (.aload_n 2, 1) := by decide +kernel
theorem dL_law_361 : decode cL_law 361 = .ok (.aload_n 0, 1) := by decide +kernel
theorem dL_law_362 : decode cL_law 362 = .ok (.iload_n 3, 1) := by decide +kernel
theorem dL_law_363 : decode cL_law 363 = .ok (.iconst 1, 1) := by decide +kernel
theorem dL_law_364 : decode cL_law 364 = .ok (.iadd, 1) := by decide +kernel
theorem dL_law_365 : decode cL_law 365 = .ok (.iaload, 1) := by decide +kernel
theorem dL_law_366 : decode cL_law 366 = .ok (.aload_n 0, 1) := by decide +kernel
theorem dL_law_367 : decode cL_law 367 = .ok (.iload_n 3, 1) := by decide +kernel
theorem dL_law_368 : decode cL_law 368 = .ok (.iconst 2, 1) := by decide +kernel
theorem dL_law_369 : decode cL_law 369 = .ok (.iadd, 1) := by decide +kernel
theorem dL_law_370 : decode cL_law 370 = .ok (.iaload, 1) := by decide +kernel
theorem dL_law_371 : decode cL_law 371 = .ok (.invokevirtual 55, 3) := by decide +kernel
theorem dL_law_374 : decode cL_law 374 = .ok (.if_icmp .eq 331, 3) := by decide +kernel
theorem dL_law_377 : decode cL_law 377 = .ok (.iconst 0, 1) := by decide +kernel
theorem dL_law_378 : decode cL_law 378 = .ok (.ireturn, 1) := by decide +kernel
theorem dL_law_379 : decode cL_law 379 = .ok (.aload_n 1, 1) := by decide +kernel
theorem dL_law_380 : decode cL_law 380 = .ok (.aload_n 0, 1) := by decide +kernel
theorem dL_law_381 : decode cL_law 381 = .ok (.iload_n 3, 1) := by decide +kernel
theorem dL_law_382 : decode cL_law 382 = .ok (.iconst 1, 1) := by decide +kernel
theorem dL_law_383 : decode cL_law 383 = .ok (.iadd, 1) := by decide +kernel
theorem dL_law_384 : decode cL_law 384 = .ok (.iaload, 1) := by decide +kernel
theorem dL_law_385 : decode cL_law 385 = .ok (.invokevirtual 56, 3) := by decide +kernel
theorem dL_law_388 : decode cL_law 388 = .ok (.aload_n 2, 1) := by decide +kernel
theorem dL_law_389 : decode cL_law 389 = .ok (.aload_n 0, 1) := by decide +kernel
theorem dL_law_390 : decode cL_law 390 = .ok (.iload_n 3, 1) := by decide +kernel
theorem dL_law_391 : decode cL_law 391 = .ok (.iconst 1, 1) := by decide +kernel
theorem dL_law_392 : decode cL_law 392 = .ok (.iadd, 1) := by decide +kernel
theorem dL_law_393 : decode cL_law 393 = .ok (.iaload, 1) := by decide +kernel
theorem dL_law_394 : decode cL_law 394 = .ok (.invokevirtual 59, 3) := by decide +kernel
theorem dL_law_397 : decode cL_law 397 = .ok (.if_icmp .eq 308, 3) := by decide +kernel
theorem dL_law_400 : decode cL_law 400 = .ok (.iconst 0, 1) := by decide +kernel
theorem dL_law_401 : decode cL_law 401 = .ok (.ireturn, 1) := by decide +kernel
theorem dL_law_402 : decode cL_law 402 = .ok (.aload_n 1, 1) := by decide +kernel
theorem dL_law_403 : decode cL_law 403 = .ok (.aload_n 0, 1) := by decide +kernel
theorem dL_law_404 : decode cL_law 404 = .ok (.iload_n 3, 1) := by decide +kernel
theorem dL_law_405 : decode cL_law 405 = .ok (.iconst 1, 1) := by decide +kernel
theorem dL_law_406 : decode cL_law 406 = .ok (.iadd, 1) := by decide +kernel
theorem dL_law_407 : decode cL_law 407 = .ok (.iaload, 1) := by decide +kernel
theorem dL_law_408 : decode cL_law 408 = .ok (.invokevirtual 60, 3) := by decide +kernel
theorem dL_law_411 : decode cL_law 411 = .ok (.aload_n 2, 1) := by decide +kernel
theorem dL_law_412 : decode cL_law 412 = .ok (.aload_n 0, 1) := by decide +kernel
theorem dL_law_413 : decode cL_law 413 = .ok (.iload_n 3, 1) := by decide +kernel
theorem dL_law_414 : decode cL_law 414 = .ok (.iconst 1, 1) := by decide +kernel
theorem dL_law_415 : decode cL_law 415 = .ok (.iadd, 1) := by decide +kernel
theorem dL_law_416 : decode cL_law 416 = .ok (.iaload, 1) := by decide +kernel
theorem dL_law_417 : decode cL_law 417 = .ok (.invokevirtual 63, 3) := by decide +kernel
theorem dL_law_420 : decode cL_law 420 = .ok (.if_icmp .eq 285, 3) := by decide +kernel
theorem dL_law_423 : decode cL_law 423 = .ok (.iconst 0, 1) := by decide +kernel
theorem dL_law_424 : decode cL_law 424 = .ok (.ireturn, 1) := by decide +kernel
theorem dL_law_425 : decode cL_law 425 = .ok (.aload_n 1, 1) := by decide +kernel
theorem dL_law_426 : decode cL_law 426 = .ok (.aload_n 0, 1) := by decide +kernel
theorem dL_law_427 : decode cL_law 427 = .ok (.iload_n 3, 1) := by decide +kernel
theorem dL_law_428 : decode cL_law 428 = .ok (.iconst 1, 1) := by decide +kernel
theorem dL_law_429 : decode cL_law 429 = .ok (.iadd, 1) := by decide +kernel
theorem dL_law_430 : decode cL_law 430 = .ok (.iaload, 1) := by decide +kernel
theorem dL_law_431 : decode cL_law 431 = .ok (.aload_n 0, 1) := by decide +kernel
theorem dL_law_432 : decode cL_law 432 = .ok (.iload_n 3, 1) := by decide +kernel
theorem dL_law_433 : decode cL_law 433 = .ok (.iconst 2, 1) := by decide +kernel
theorem dL_law_434 : decode cL_law 434 = .ok (.iadd, 1) := by decide +kernel
theorem dL_law_435 : decode cL_law 435 = .ok (.iaload, 1) := by decide +kernel
theorem dL_law_436 : decode cL_law 436 = .ok (.aload_n 0, 1) := by decide +kernel
theorem dL_law_437 : decode cL_law 437 = .ok (.iload_n 3, 1) := by decide +kernel
theorem dL_law_438 : decode cL_law 438 = .ok (.iconst 3, 1) := by decide +kernel
theorem dL_law_439 : decode cL_law 439 = .ok (.iadd, 1) := by decide +kernel
theorem dL_law_440 : decode cL_law 440 = .ok (.iaload, 1) := by decide +kernel
theorem dL_law_441 : decode cL_law 441 = .ok (.invokevirtual 64, 3) := by decide +kernel
theorem dL_law_444 : decode cL_law 444 = .ok (.aload_n 2, 1) := by decide +kernel
theorem dL_law_445 : decode cL_law 445 = .ok (.aload_n 0, 1) := by decide +kernel
theorem dL_law_446 : decode cL_law 446 = .ok (.iload_n 3, 1) := by decide +kernel
theorem dL_law_447 : decode cL_law 447 = .ok (.iconst 1, 1) := by decide +kernel
theorem dL_law_448 : decode cL_law 448 = .ok (.iadd, 1) := by decide +kernel
theorem dL_law_449 : decode cL_law 449 = .ok (.iaload, 1) := by decide +kernel
theorem dL_law_450 : decode cL_law 450 = .ok (.aload_n 0, 1) := by decide +kernel
theorem dL_law_451 : decode cL_law 451 = .ok (.iload_n 3, 1) := by decide +kernel
theorem dL_law_452 : decode cL_law 452 = .ok (.iconst 2, 1) := by decide +kernel
theorem dL_law_453 : decode cL_law 453 = .ok (.iadd, 1) := by decide +kernel
theorem dL_law_454 : decode cL_law 454 = .ok (.iaload, 1) := by decide +kernel
theorem dL_law_455 : decode cL_law 455 = .ok (.aload_n 0, 1) := by decide +kernel
theorem dL_law_456 : decode cL_law 456 = .ok (.iload_n 3, 1) := by decide +kernel
theorem dL_law_457 : decode cL_law 457 = .ok (.iconst 3, 1) := by decide +kernel
theorem dL_law_458 : decode cL_law 458 = .ok (.iadd, 1) := by decide +kernel
theorem dL_law_459 : decode cL_law 459 = .ok (.iaload, 1) := by decide +kernel
theorem dL_law_460 : decode cL_law 460 = .ok (.invokevirtual 67, 3) := by decide +kernel
theorem dL_law_463 : decode cL_law 463 = .ok (.if_icmp .eq 242, 3) := by decide +kernel
theorem dL_law_466 : decode cL_law 466 = .ok (.iconst 0, 1) := by decide +kernel
theorem dL_law_467 : decode cL_law 467 = .ok (.ireturn, 1) := by decide +kernel
theorem dL_law_468 : decode cL_law 468 = .ok (.aload_n 1, 1) := by decide +kernel
theorem dL_law_469 : decode cL_law 469 = .ok (.aload_n 0, 1) := by decide +kernel
theorem dL_law_470 : decode cL_law 470 = .ok (.iload_n 3, 1) := by decide +kernel
theorem dL_law_471 : decode cL_law 471 = .ok (.iconst 1, 1) := by decide +kernel
theorem dL_law_472 : decode cL_law 472 = .ok (.iadd, 1) := by decide +kernel
theorem dL_law_473 : decode cL_law 473 = .ok (.iaload, 1) := by decide +kernel
theorem dL_law_474 : decode cL_law 474 = .ok (.invokevirtual 68, 3) := by decide +kernel
theorem dL_law_477 : decode cL_law 477 = .ok (.aload_n 2, 1) := by decide +kernel
theorem dL_law_478 : decode cL_law 478 = .ok (.aload_n 0, 1) := by decide +kernel
theorem dL_law_479 : decode cL_law 479 = .ok (.iload_n 3, 1) := by decide +kernel
theorem dL_law_480 : decode cL_law 480 = .ok (.iconst 1, 1) := by decide +kernel
theorem dL_law_481 : decode cL_law 481 = .ok (.iadd, 1) := by decide +kernel
theorem dL_law_482 : decode cL_law 482 = .ok (.iaload, 1) := by decide +kernel
theorem dL_law_483 : decode cL_law 483 = .ok (.invokevirtual 71, 3) := by decide +kernel
theorem dL_law_486 : decode cL_law 486 = .ok (.if_icmp .eq 219, 3) := by decide +kernel
theorem dL_law_489 : decode cL_law 489 = .ok (.iconst 0, 1) := by decide +kernel
theorem dL_law_490 : decode cL_law 490 = .ok (.ireturn, 1) := by decide +kernel
theorem dL_law_491 : decode cL_law 491 = .ok (.aload_n 1, 1) := by decide +kernel
theorem dL_law_492 : decode cL_law 492 = .ok (.aload_n 0, 1) := by decide +kernel
theorem dL_law_493 : decode cL_law 493 = .ok (.iload_n 3, 1) := by decide +kernel
theorem dL_law_494 : decode cL_law 494 = .ok (.iconst 1, 1) := by decide +kernel
theorem dL_law_495 : decode cL_law 495 = .ok (.iadd, 1) := by decide +kernel
theorem dL_law_496 : decode cL_law 496 = .ok (.iaload, 1) := by decide +kernel
theorem dL_law_497 : decode cL_law 497 = .ok (.aload_n 0, 1) := by decide +kernel
theorem dL_law_498 : decode cL_law 498 = .ok (.iload_n 3, 1) := by decide +kernel
theorem dL_law_499 : decode cL_law 499 = .ok (.iconst 2, 1) := by decide +kernel
theorem dL_law_500 : decode cL_law 500 = .ok (.iadd, 1) := by decide +kernel
theorem dL_law_501 : decode cL_law 501 = .ok (.iaload, 1) := by decide +kernel
theorem dL_law_502 : decode cL_law 502 = .ok (.aload_n 0, 1) := by decide +kernel
theorem dL_law_503 : decode cL_law 503 = .ok (.iload_n 3, 1) := by decide +kernel
theorem dL_law_504 : decode cL_law 504 = .ok (.iconst 3, 1) := by decide +kernel
theorem dL_law_505 : decode cL_law 505 = .ok (.iadd, 1) := by decide +kernel
theorem dL_law_506 : decode cL_law 506 = .ok (.iaload, 1) := by decide +kernel
theorem dL_law_507 : decode cL_law 507 = .ok (.invokevirtual 72, 3) := by decide +kernel
theorem dL_law_510 : decode cL_law 510 = .ok (.aload_n 2, 1) := by decide +kernel
theorem dL_law_511 : decode cL_law 511 = .ok (.aload_n 0, 1) := by decide +kernel
theorem dL_law_512 : decode cL_law 512 = .ok (.iload_n 3, 1) := by decide +kernel
theorem dL_law_513 : decode cL_law 513 = .ok (.iconst 1, 1) := by decide +kernel
theorem dL_law_514 : decode cL_law 514 = .ok (.iadd, 1) := by decide +kernel
theorem dL_law_515 : decode cL_law 515 = .ok (.iaload, 1) := by decide +kernel
theorem dL_law_516 : decode cL_law 516 = .ok (.aload_n 0, 1) := by decide +kernel
theorem dL_law_517 : decode cL_law 517 = .ok (.iload_n 3, 1) := by decide +kernel
theorem dL_law_518 : decode cL_law 518 = .ok (.iconst 2, 1) := by decide +kernel
theorem dL_law_519 : decode cL_law 519 = .ok (.iadd, 1) := by decide +kernel
theorem dL_law_520 : decode cL_law 520 = .ok (.iaload, 1) := by decide +kernel
theorem dL_law_521 : decode cL_law 521 = .ok (.aload_n 0, 1) := by decide +kernel
theorem dL_law_522 : decode cL_law 522 = .ok (.iload_n 3, 1) := by decide +kernel
theorem dL_law_523 : decode cL_law 523 = .ok (.iconst 3, 1) := by decide +kernel
theorem dL_law_524 : decode cL_law 524 = .ok (.iadd, 1) := by decide +kernel
theorem dL_law_525 : decode cL_law 525 = .ok (.iaload, 1) := by decide +kernel
theorem dL_law_526 : decode cL_law 526 = .ok (.invokevirtual 75, 3) := by decide +kernel
theorem dL_law_529 : decode cL_law 529 = .ok (.if_icmp .eq 176, 3) := by decide +kernel
theorem dL_law_532 : decode cL_law 532 = .ok (.iconst 0, 1) := by decide +kernel
theorem dL_law_533 : decode cL_law 533 = .ok (.ireturn, 1) := by decide +kernel
theorem dL_law_534 : decode cL_law 534 = .ok (.aload_n 1, 1) := by decide +kernel
theorem dL_law_535 : decode cL_law 535 = .ok (.aload_n 0, 1) := by decide +kernel
theorem dL_law_536 : decode cL_law 536 = .ok (.iload_n 3, 1) := by decide +kernel
theorem dL_law_537 : decode cL_law 537 = .ok (.iconst 1, 1) := by decide +kernel
theorem dL_law_538 : decode cL_law 538 = .ok (.iadd, 1) := by decide +kernel
theorem dL_law_539 : decode cL_law 539 = .ok (.iaload, 1) := by decide +kernel
theorem dL_law_540 : decode cL_law 540 = .ok (.aload_n 0, 1) := by decide +kernel
theorem dL_law_541 : decode cL_law 541 = .ok (.iload_n 3, 1) := by decide +kernel
theorem dL_law_542 : decode cL_law 542 = .ok (.iconst 2, 1) := by decide +kernel
theorem dL_law_543 : decode cL_law 543 = .ok (.iadd, 1) := by decide +kernel
theorem dL_law_544 : decode cL_law 544 = .ok (.iaload, 1) := by decide +kernel
theorem dL_law_545 : decode cL_law 545 = .ok (.aload_n 0, 1) := by decide +kernel
theorem dL_law_546 : decode cL_law 546 = .ok (.iload_n 3, 1) := by decide +kernel
theorem dL_law_547 : decode cL_law 547 = .ok (.iconst 3, 1) := by decide +kernel
theorem dL_law_548 : decode cL_law 548 = .ok (.iadd, 1) := by decide +kernel
theorem dL_law_549 : decode cL_law 549 = .ok (.iaload, 1) := by decide +kernel
theorem dL_law_550 : decode cL_law 550 = .ok (.invokevirtual 76, 3) := by decide +kernel
theorem dL_law_553 : decode cL_law 553 = .ok (.aload_n 2, 1) := by decide +kernel
theorem dL_law_554 : decode cL_law 554 = .ok (.aload_n 0, 1) := by decide +kernel
theorem dL_law_555 : decode cL_law 555 = .ok (.iload_n 3, 1) := by decide +kernel
theorem dL_law_556 : decode cL_law 556 = .ok (.iconst 1, 1) := by decide +kernel
theorem dL_law_557 : decode cL_law 557 = .ok (.iadd, 1) := by decide +kernel
theorem dL_law_558 : decode cL_law 558 = .ok (.iaload, 1) := by decide +kernel
theorem dL_law_559 : decode cL_law 559 = .ok (.aload_n 0, 1) := by decide +kernel
theorem dL_law_560 : decode cL_law 560 = .ok (.iload_n 3, 1) := by decide +kernel
theorem dL_law_561 : decode cL_law 561 = .ok (.iconst 2, 1) := by decide +kernel
theorem dL_law_562 : decode cL_law 562 = .ok (.iadd, 1) := by decide +kernel
theorem dL_law_563 : decode cL_law 563 = .ok (.iaload, 1) := by decide +kernel
theorem dL_law_564 : decode cL_law 564 = .ok (.aload_n 0, 1) := by decide +kernel
theorem dL_law_565 : decode cL_law 565 = .ok (.iload_n 3, 1) := by decide +kernel
theorem dL_law_566 : decode cL_law 566 = .ok (.iconst 3, 1) := by decide +kernel
theorem dL_law_567 : decode cL_law 567 = .ok (.iadd, 1) := by decide +kernel
theorem dL_law_568 : decode cL_law 568 = .ok (.iaload, 1) := by decide +kernel
theorem dL_law_569 : decode cL_law 569 = .ok (.invokevirtual 79, 3) := by decide +kernel
theorem dL_law_572 : decode cL_law 572 = .ok (.if_icmp .eq 133, 3) := by decide +kernel
theorem dL_law_575 : decode cL_law 575 = .ok (.iconst 0, 1) := by decide +kernel
theorem dL_law_576 : decode cL_law 576 = .ok (.ireturn, 1) := by decide +kernel
theorem dL_law_577 : decode cL_law 577 = .ok (.aload_n 1, 1) := by decide +kernel
theorem dL_law_578 : decode cL_law 578 = .ok (.aload_n 0, 1) := by decide +kernel
theorem dL_law_579 : decode cL_law 579 = .ok (.iload_n 3, 1) := by decide +kernel
theorem dL_law_580 : decode cL_law 580 = .ok (.iconst 1, 1) := by decide +kernel
theorem dL_law_581 : decode cL_law 581 = .ok (.iadd, 1) := by decide +kernel
theorem dL_law_582 : decode cL_law 582 = .ok (.iaload, 1) := by decide +kernel
theorem dL_law_583 : decode cL_law 583 = .ok (.invokevirtual 80, 3) := by decide +kernel
theorem dL_law_586 : decode cL_law 586 = .ok (.aload_n 2, 1) := by decide +kernel
theorem dL_law_587 : decode cL_law 587 = .ok (.aload_n 0, 1) := by decide +kernel
theorem dL_law_588 : decode cL_law 588 = .ok (.iload_n 3, 1) := by decide +kernel
theorem dL_law_589 : decode cL_law 589 = .ok (.iconst 1, 1) := by decide +kernel
theorem dL_law_590 : decode cL_law 590 = .ok (.iadd, 1) := by decide +kernel
theorem dL_law_591 : decode cL_law 591 = .ok (.iaload, 1) := by decide +kernel
theorem dL_law_592 : decode cL_law 592 = .ok (.invokevirtual 83, 3) := by decide +kernel
theorem dL_law_595 : decode cL_law 595 = .ok (.if_icmp .eq 110, 3) := by decide +kernel
theorem dL_law_598 : decode cL_law 598 = .ok (.iconst 0, 1) := by decide +kernel
theorem dL_law_599 : decode cL_law 599 = .ok (.ireturn, 1) := by decide +kernel
theorem dL_law_600 : decode cL_law 600 = .ok (.aload_n 1, 1) := by decide +kernel
theorem dL_law_601 : decode cL_law 601 = .ok (.invokevirtual 84, 3) := by decide +kernel
theorem dL_law_604 : decode cL_law 604 = .ok (.aload_n 2, 1) := by decide +kernel
theorem dL_law_605 : decode cL_law 605 = .ok (.invokevirtual 87, 3) := by decide +kernel
theorem dL_law_608 : decode cL_law 608 = .ok (.if_icmp .eq 97, 3) := by decide +kernel
theorem dL_law_611 : decode cL_law 611 = .ok (.iconst 0, 1) := by decide +kernel
theorem dL_law_612 : decode cL_law 612 = .ok (.ireturn, 1) := by decide +kernel
theorem dL_law_613 : decode cL_law 613 = .ok (.aload_n 1, 1) := by decide +kernel
theorem dL_law_614 : decode cL_law 614 = .ok (.aload_n 0, 1) := by decide +kernel
theorem dL_law_615 : decode cL_law 615 = .ok (.iload_n 3, 1) := by decide +kernel
theorem dL_law_616 : decode cL_law 616 = .ok (.iconst 1, 1) := by decide +kernel
theorem dL_law_617 : decode cL_law 617 = .ok (.iadd, 1) := by decide +kernel
theorem dL_law_618 : decode cL_law 618 = .ok (.iaload, 1) := by decide +kernel
theorem dL_law_619 : decode cL_law 619 = .ok (.invokevirtual 88, 3) := by decide +kernel
theorem dL_law_622 : decode cL_law 622 = .ok (.aload_n 2, 1) := by decide +kernel
theorem dL_law_623 : decode cL_law 623 = .ok (.aload_n 0, 1) := by decide +kernel
theorem dL_law_624 : decode cL_law 624 = .ok (.iload_n 3, 1) := by decide +kernel
theorem dL_law_625 : decode cL_law 625 = .ok (.iconst 1, 1) := by decide +kernel
theorem dL_law_626 : decode cL_law 626 = .ok (.iadd, 1) := by decide +kernel
theorem dL_law_627 : decode cL_law 627 = .ok (.iaload, 1) := by decide +kernel
theorem dL_law_628 : decode cL_law 628 = .ok (.invokevirtual 91, 3) := by decide +kernel
theorem dL_law_631 : decode cL_law 631 = .ok (.if_icmp .eq 74, 3) := by decide +kernel
theorem dL_law_634 : decode cL_law 634 = .ok (.iconst 0, 1) := by decide +kernel
theorem dL_law_635 : decode cL_law 635 = .ok (.ireturn, 1) := by decide +kernel
theorem dL_law_636 : decode cL_law 636 = .ok (.aload_n 1, 1) := by decide +kernel
theorem dL_law_637 : decode cL_law 637 = .ok (.aload_n 0, 1) := by decide +kernel
theorem dL_law_638 : decode cL_law 638 = .ok (.iload_n 3, 1) := by decide +kernel
theorem dL_law_639 : decode cL_law 639 = .ok (.iconst 1, 1) := by decide +kernel
theorem dL_law_640 : decode cL_law 640 = .ok (.iadd, 1) := by decide +kernel
theorem dL_law_641 : decode cL_law 641 = .ok (.iaload, 1) := by decide +kernel
theorem dL_law_642 : decode cL_law 642 = .ok (.invokevirtual 92, 3) := by decide +kernel
theorem dL_law_645 : decode cL_law 645 = .ok (.aload_n 2, 1) := by decide +kernel
theorem dL_law_646 : decode cL_law 646 = .ok (.aload_n 0, 1) := by decide +kernel
theorem dL_law_647 : decode cL_law 647 = .ok (.iload_n 3, 1) := by decide +kernel
theorem dL_law_648 : decode cL_law 648 = .ok (.iconst 1, 1) := by decide +kernel
theorem dL_law_649 : decode cL_law 649 = .ok (.iadd, 1) := by decide +kernel
theorem dL_law_650 : decode cL_law 650 = .ok (.iaload, 1) := by decide +kernel
theorem dL_law_651 : decode cL_law 651 = .ok (.invokevirtual 95, 3) := by decide +kernel
theorem dL_law_654 : decode cL_law 654 = .ok (.if_icmp .eq 51, 3) := by decide +kernel
theorem dL_law_657 : decode cL_law 657 = .ok (.iconst 0, 1) := by decide +kernel
theorem dL_law_658 : decode cL_law 658 = .ok (.ireturn, 1) := by decide +kernel
theorem dL_law_659 : decode cL_law 659 = .ok (.aload_n 1, 1) := by decide +kernel
theorem dL_law_660 : decode cL_law 660 = .ok (.aload_n 0, 1) := by decide +kernel
theorem dL_law_661 : decode cL_law 661 = .ok (.iload_n 3, 1) := by decide +kernel
theorem dL_law_662 : decode cL_law 662 = .ok (.iconst 1, 1) := by decide +kernel
theorem dL_law_663 : decode cL_law 663 = .ok (.iadd, 1) := by decide +kernel
theorem dL_law_664 : decode cL_law 664 = .ok (.iaload, 1) := by decide +kernel
theorem dL_law_665 : decode cL_law 665 = .ok (.invokevirtual 96, 3) := by decide +kernel
theorem dL_law_668 : decode cL_law 668 = .ok (.aload_n 2, 1) := by decide +kernel
theorem dL_law_669 : decode cL_law 669 = .ok (.aload_n 0, 1) := by decide +kernel
theorem dL_law_670 : decode cL_law 670 = .ok (.iload_n 3, 1) := by decide +kernel
theorem dL_law_671 : decode cL_law 671 = .ok (.iconst 1, 1) := by decide +kernel
theorem dL_law_672 : decode cL_law 672 = .ok (.iadd, 1) := by decide +kernel
theorem dL_law_673 : decode cL_law 673 = .ok (.iaload, 1) := by decide +kernel
theorem dL_law_674 : decode cL_law 674 = .ok (.invokevirtual 99, 3) := by decide +kernel
theorem dL_law_677 : decode cL_law 677 = .ok (.if_icmp .eq 28, 3) := by decide +kernel
theorem dL_law_680 : decode cL_law 680 = .ok (.iconst 0, 1) := by decide +kernel
theorem dL_law_681 : decode cL_law 681 = .ok (.ireturn, 1) := by decide +kernel
theorem dL_law_682 : decode cL_law 682 = .ok (.aload_n 1, 1) := by decide +kernel
theorem dL_law_683 : decode cL_law 683 = .ok (.aload_n 0, 1) := by decide +kernel
theorem dL_law_684 : decode cL_law 684 = .ok (.iload_n 3, 1) := by decide +kernel
theorem dL_law_685 : decode cL_law 685 = .ok (.iconst 1, 1) := by decide +kernel
theorem dL_law_686 : decode cL_law 686 = .ok (.iadd, 1) := by decide +kernel
theorem dL_law_687 : decode cL_law 687 = .ok (.iaload, 1) := by decide +kernel
theorem dL_law_688 : decode cL_law 688 = .ok (.invokevirtual 100, 3) := by decide +kernel
theorem dL_law_691 : decode cL_law 691 = .ok (.aload_n 2, 1) := by decide +kernel
theorem dL_law_692 : decode cL_law 692 = .ok (.aload_n 0, 1) := by decide +kernel
theorem dL_law_693 : decode cL_law 693 = .ok (.iload_n 3, 1) := by decide +kernel
theorem dL_law_694 : decode cL_law 694 = .ok (.iconst 1, 1) := by decide +kernel
theorem dL_law_695 : decode cL_law 695 = .ok (.iadd, 1) := by decide +kernel
theorem dL_law_696 : decode cL_law 696 = .ok (.iaload, 1) := by decide +kernel
theorem dL_law_697 : decode cL_law 697 = .ok (.invokevirtual 103, 3) := by decide +kernel
theorem dL_law_700 : decode cL_law 700 = .ok (.if_icmp .eq 5, 3) := by decide +kernel
theorem dL_law_703 : decode cL_law 703 = .ok (.iconst 0, 1) := by decide +kernel
theorem dL_law_704 : decode cL_law 704 = .ok (.ireturn, 1) := by decide +kernel
theorem dL_law_705 : decode cL_law 705 = .ok (.iinc 3 6, 3) := by decide +kernel
theorem dL_law_708 : decode cL_law 708 = .ok (.goto (-690), 3) := by decide +kernel
theorem dL_law_711 : decode cL_law 711 = .ok (.iconst 1, 1) := by decide +kernel
theorem dL_law_712 : decode cL_law 712 = .ok (.ireturn, 1) := by decide +kernel
/-- the objects of LitmusHall$Cure, kind 0: what each holds, by its address -/
/-- the objects of LitmusHall$Explorer, kind 1: what each holds, by its address -/
/-- the objects of LitmusHall$Findings, kind 2: what each holds, by its address -/
/-- the objects of LitmusHall$Machine, kind 3: what each holds, by its address -/
/-- the objects of LitmusHall$Program, kind 4: what each holds, by its address -/
/-- the objects of LitmusHall$Race, kind 5: what each holds, by its address -/
/-- the objects of LitmusHall$Reader, kind 6: what each holds, by its address -/
/-- the objects of LitmusHall$State, kind 7: what each holds, by its address -/
/-- the objects of LitmusHall, kind 8: what each holds, by its address -/
/-- the objects of LitmusHallModel, kind 9: what each holds, by its address -/
/-- the arrays of kind 10: what each holds, by its address -/
/-- the arrays of kind 11: what each holds, by its address -/
/-- the arrays of kind 12: what each holds, by its address -/
/-- the pool: the addresses, the kind of each, and the kinds -/
/-- the empty pool -/
/-- the pool's rows by their kinds -/
/-! ===== END printed: names ===== -/
end
section
/-! My own base: one world for all contracts (array classes cI, cB, cZ), contracts gMi, gMv, and a row a call. -/
abbrev gTy (cI cB cZ : ClassId) : List (ClassId × FieldType) := [(cI, .int), (cB, .byte), (cZ, .boolean)]
abbrev gNT : Type := String × Nat × MethodName × String
def gN (L : List gNT) (U : State) : Prop := ∀ q ∈ L, va_Nw (.methodLinkNest q.1 q.2.1 q.2.2.1 q.2.2.2) U
def gE (D : va_G) (cI cB cZ : ClassId) (w : va_W) (sz : Nat) (L : List gNT) (U : State) : Prop := U.heap.size = sz ∧ va_P D vwCl w U.heap ∧ va_K D vwCl (gTy cI cB cZ) U ∧ va_D (fun _ => True) w ∧ gN L U
def gX (D : va_G) (cI cB cZ : ClassId) (A : Nat → Prop) (w' : va_W) (t : State) : Prop := va_P D vwCl w' t.heap ∧ va_K D vwCl (gTy cI cB cZ) t ∧ va_D A w'
def gMi (l : Launch) (y : MethodName) (ws : List Cond) (rm : Room) (D : va_G) (cI cB cZ : ClassId) (L : List gNT) (av : List Value) (w : va_W) (post : Int32 → va_W → Prop) : Prop :=
  ∀ sz : Nat, Met l y ws rm (va_Pc av (gE D cI cB cZ w sz L)) (va_Qi post (gX D cI cB cZ (va_A w sz)) (va_A w sz)) rm.cells rm.slots (va_A w sz)
def gMv (l : Launch) (y : MethodName) (ws : List Cond) (rm : Room) (D : va_G) (cI cB cZ : ClassId) (L : List gNT) (av : List Value) (w : va_W) (post : va_W → Prop) : Prop :=
  ∀ sz : Nat, Met l y ws rm (va_Pc av (gE D cI cB cZ w sz L)) (va_Qv post (gX D cI cB cZ (va_A w sz)) (va_A w sz)) rm.cells rm.slots (va_A w sz)
theorem gN.nil {U : State} : gN [] U := fun _ h => absurd h List.not_mem_nil
theorem gN.warm {L : List gNT} {s U : State} (hW : s.WarmedH U.vm) (h : gN L s) : gN L U := fun q hq => va_Nw.warmM hW (h q hq)
theorem gN.sub {L L' : List gNT} {s : State} (h : gN L s) (hs : ∀ q ∈ L', q ∈ L) : gN L' s := fun q hq => h q (hs q hq)
theorem gE.blind {D : va_G} {cI cB cZ : ClassId} {w : va_W} {sz : Nat} {L : List gNT} {av : List Value} : FrameBlind (va_Pc av (gE D cI cB cZ w sz L)) := fun a U g mk q => by
  obtain ⟨q0, q1, qP, qK, qD, qN⟩ := q
  exact ⟨q0, q1, qP, va_K.moved (u := U) (U := U.calling g mk a) (Vm.Alike.refl U.vm) qK, qD, fun x hx => va_Nw.same rfl rfl (qN x hx)⟩
theorem gx_fm {α β : Type} {f : α → Option β} : ∀ {l : List α} {w : List β}, l.map f = w.map some → l.filterMap f = w
  | [], [], _ => rfl
  | [], _ :: _, h => by simp at h
  | _ :: _, [], h => by simp at h
  | a :: l, b :: w, h => by
    simp only [List.map_cons, List.cons.injEq] at h
    rw [List.filterMap_cons, h.1]
    exact congrArg (b :: ·) (gx_fm h.2)
theorem gx_one {D : va_G} {cl : List vw_C} {cI cB cZ cA : ClassId} {s : State} (h : va_K D cl (gTy cI cB cZ ++ [(cA, .int)]) s) : cA = cI := by
  have h1 := (h.2 0 (cI, .int) rfl).2
  have h2 := (h.2 3 (cA, .int) rfl).2
  exact Option.some.inj (h2.symm.trans h1)
theorem gx_oneB {D : va_G} {cl : List vw_C} {cI cB cZ cA : ClassId} {s : State} (h : va_K D cl (gTy cI cB cZ ++ [(cA, .byte)]) s) : cA = cB := by
  have h1 := (h.2 1 (cB, .byte) rfl).2
  have h2 := (h.2 3 (cA, .byte) rfl).2
  exact Option.some.inj (h2.symm.trans h1)
theorem gx_oneZ {D : va_G} {cl : List vw_C} {cI cB cZ cA : ClassId} {s : State} (h : va_K D cl (gTy cI cB cZ ++ [(cA, .boolean)]) s) : cA = cZ := by
  have h1 := (h.2 2 (cZ, .boolean) rfl).2
  have h2 := (h.2 3 (cA, .boolean) rfl).2
  exact Option.some.inj (h2.symm.trans h1)
theorem gx_arr {args : Array Value} {s : State} {ty : FieldType} (h : (Cond.arrayClass ty).before args s = true) : ∃ cA : ClassId, ArrOfT s cA ty ∧ s.vm.findClass ("[" ++ ty.toString) = some cA := by
  obtain ⟨cA, kA, comp, h1, h2, h3⟩ := Cond.arrayClass_spec h
  exact ⟨cA, fun n z => ⟨fun k h => (by cases h), kA, h2, comp, h3⟩, h1⟩
section GX
variable {p : Program} {l : Launch} {e : Env} {R : Room} {s : State} {m : MethodId} {args : Array Value} {below : List Frame} {meth : Method} {c : Code} {H H0 : Heap} {locs : List Loc} {cells slots : Nat} {Q : State → Prop}
variable {pc : Nat} {ls : Array Slot} {rest st0 : List Value} {A : Nat → Prop} {D : va_G} {cI cB cZ : ClassId} {ws : va_W} {cc : ByteArray}
theorem gx_top {x y : Int32} (h : x = y) (k : W p l e R s m args below meth c H locs cells slots Q (F0 m pc ls (.int y :: rest))) : W p l e R s m args below meth c H locs cells slots Q (F0 m pc ls (.int x :: rest)) := h ▸ k
theorem gx_newI (hexec : p.tables.exec = Jvm.exec) (hb : c.code = cc) (harr : (Cond.arrayClass .int).before args s = true) (hK : va_K D vwCl (gTy cI cB cZ) s) (hP : va_P D vwCl ws H) (hD : va_D A ws) (hS : va_S A H0 H locs) (hA : ∀ q, H0.size ≤ q → A q)
    {n : Int32} (N' : Nat) (hn : ¬ n < 0) (hN : n.toNatClampNeg = N') (hbytes : N' * componentBytes .int ≤ 536870912) (hcells : cells + 1 ≤ R.cells) (hslots : slots + N' ≤ R.slots) (hdg : decode cc pc = .ok (.newarray .int, 2))
    (kk : ∀ (q : Nat) (H1 : Heap), va_P D vwCl (ws ++ [(q, .inl (cI, N', .inl (fun _ => 0)))]) H1 → va_D A (ws ++ [(q, .inl (cI, N', .inl (fun _ => 0)))]) → va_S A H0 H1 locs →
      W p l e R s m args below meth c H1 locs (cells + 1) (slots + N') Q (F0 m (pc + 2) ls (.ref q :: rest))) : W p l e R s m args below meth c H locs cells slots Q (F0 m pc ls (.int n :: rest)) := by
  refine va_newa (ty := .int) (a0 := (N', .inl (fun _ => 0))) hexec hb harr rfl hK hP hD hS hA (fun _ => rfl) hn hN hbytes hcells hslots hdg (fun q cA H1 hK1 hP1 hD1 hS1 => ?_)
  have e1 := gx_one hK1
  subst e1
  exact kk q H1 hP1 hD1 hS1
theorem gx_newB (hexec : p.tables.exec = Jvm.exec) (hb : c.code = cc) (harr : (Cond.arrayClass .byte).before args s = true) (hK : va_K D vwCl (gTy cI cB cZ) s) (hP : va_P D vwCl ws H) (hD : va_D A ws) (hS : va_S A H0 H locs) (hA : ∀ q, H0.size ≤ q → A q)
    {n : Int32} (N' : Nat) (hn : ¬ n < 0) (hN : n.toNatClampNeg = N') (hbytes : N' * componentBytes .byte ≤ 536870912) (hcells : cells + 1 ≤ R.cells) (hslots : slots + N' ≤ R.slots) (hdg : decode cc pc = .ok (.newarray .byte, 2))
    (kk : ∀ (q : Nat) (H1 : Heap), va_P D vwCl (ws ++ [(q, .inl (cB, N', .inl (fun _ => 0)))]) H1 → va_D A (ws ++ [(q, .inl (cB, N', .inl (fun _ => 0)))]) → va_S A H0 H1 locs →
      W p l e R s m args below meth c H1 locs (cells + 1) (slots + N') Q (F0 m (pc + 2) ls (.ref q :: rest))) : W p l e R s m args below meth c H locs cells slots Q (F0 m pc ls (.int n :: rest)) := by
  refine va_newa (ty := .byte) (a0 := (N', .inl (fun _ => 0))) hexec hb harr rfl hK hP hD hS hA (fun _ => rfl) hn hN hbytes hcells hslots hdg (fun q cA H1 hK1 hP1 hD1 hS1 => ?_)
  have e1 := gx_oneB hK1
  subst e1
  exact kk q H1 hP1 hD1 hS1
theorem gx_newZ (hexec : p.tables.exec = Jvm.exec) (hb : c.code = cc) (harr : (Cond.arrayClass .boolean).before args s = true) (hK : va_K D vwCl (gTy cI cB cZ) s) (hP : va_P D vwCl ws H) (hD : va_D A ws) (hS : va_S A H0 H locs) (hA : ∀ q, H0.size ≤ q → A q)
    {n : Int32} (N' : Nat) (hn : ¬ n < 0) (hN : n.toNatClampNeg = N') (hbytes : N' * componentBytes .boolean ≤ 536870912) (hcells : cells + 1 ≤ R.cells) (hslots : slots + N' ≤ R.slots) (hdg : decode cc pc = .ok (.newarray .boolean, 2))
    (kk : ∀ (q : Nat) (H1 : Heap), va_P D vwCl (ws ++ [(q, .inl (cZ, N', .inl (fun _ => 0)))]) H1 → va_D A (ws ++ [(q, .inl (cZ, N', .inl (fun _ => 0)))]) → va_S A H0 H1 locs →
      W p l e R s m args below meth c H1 locs (cells + 1) (slots + N') Q (F0 m (pc + 2) ls (.ref q :: rest))) : W p l e R s m args below meth c H locs cells slots Q (F0 m pc ls (.int n :: rest)) := by
  refine va_newa (ty := .boolean) (a0 := (N', .inl (fun _ => 0))) hexec hb harr rfl hK hP hD hS hA (fun _ => rfl) hn hN hbytes hcells hslots hdg (fun q cA H1 hK1 hP1 hD1 hS1 => ?_)
  have e1 := gx_oneZ hK1
  subst e1
  exact kk q H1 hP1 hD1 hS1
/-- a method's ends -/
theorem gx_iret {w' : va_W} {post : Int32 → va_W → Prop} {v : Int32} {mc ms : Nat} (hexec : p.tables.exec = Jvm.exec) (hb : c.code = cc) (hr : meth.sig.returnType = some .int) (hlocks : meth.locks = false) (hK : va_K D vwCl (gTy cI cB cZ) s) (hP : va_P D vwCl w' H) (hD : va_D A w') (hS : va_S A s.heap H locs) (hc : cells ≤ mc) (hs : slots ≤ ms) (hdg : decode cc pc = .ok (.ireturn, 1)) (hp : post v w') :
    W p l e R s m args below meth c H locs cells slots (MQ below (va_Qi post (gX D cI cB cZ A) A) args s mc ms A) (F0 m pc ls [.int v]) :=
  W.widen hc hs (W.iret hexec hb hr (fun t ht hW => ⟨⟨v, w', rfl, hp, by rw [ht]; exact hP, va_K.moved hW.alike hK, hD⟩, hS.F ht⟩) hS.2.2 hdg hlocks)
theorem gx_zret {w' : va_W} {post : Int32 → va_W → Prop} {v : Int32} {mc ms : Nat} (hexec : p.tables.exec = Jvm.exec) (hb : c.code = cc) (hr : meth.sig.returnType = some .boolean) (hlocks : meth.locks = false) (hK : va_K D vwCl (gTy cI cB cZ) s) (hP : va_P D vwCl w' H) (hD : va_D A w') (hS : va_S A s.heap H locs) (hc : cells ≤ mc) (hs : slots ≤ ms) (hdg : decode cc pc = .ok (.ireturn, 1)) (hn : narrow .boolean (.int v) = .int v) (hp : post v w') :
    W p l e R s m args below meth c H locs cells slots (MQ below (va_Qi post (gX D cI cB cZ A) A) args s mc ms A) (F0 m pc ls [.int v]) :=
  W.widen hc hs (W.zret hexec hb hr hn (fun t ht hW => ⟨⟨v, w', rfl, hp, by rw [ht]; exact hP, va_K.moved hW.alike hK, hD⟩, hS.F ht⟩) hS.2.2 hdg hlocks)
theorem gx_vret {w' : va_W} {post : va_W → Prop} {mc ms : Nat} (hexec : p.tables.exec = Jvm.exec) (hb : c.code = cc) (hr : meth.sig.returnType = none) (hlocks : meth.locks = false) (hK : va_K D vwCl (gTy cI cB cZ) s) (hP : va_P D vwCl w' H) (hD : va_D A w') (hS : va_S A s.heap H locs) (hc : cells ≤ mc) (hs : slots ≤ ms) (hdg : decode cc pc = .ok (.return_, 1)) (hp : post w') :
    W p l e R s m args below meth c H locs cells slots (MQ below (va_Qv post (gX D cI cB cZ A) A) args s mc ms A) (F0 m pc ls []) :=
  W.widen hc hs (W.vret hexec hb hr (fun t ht hW => ⟨⟨w', rfl, hp, by rw [ht]; exact hP, va_K.moved hW.alike hK, hD⟩, hS.F ht⟩) hS.2.2 hdg hlocks)
/-- a call's world: cut, and joined again -/
theorem gx_goi {A0 : Nat → Prop} {wc wr : va_W} {post : Int32 → va_W → Prop} {a : Array Value} {mc ms : Nat} (hr : va_Run p l e R s m args below meth c H locs cells slots mc ms (F0 m pc ls st0) rest (va_Qi post (gX D cI cB cZ (va_A wc H.size)) (va_A wc H.size) a) (va_A wc H.size))
    (hP : va_P D vwCl ws H) (hD : va_D A0 ws) (hS : va_S A0 H0 H locs) (hA : ∀ q, H0.size ≤ q → A0 q) (isC isR : List Nat) (hC : isC.map (fun i => ws[i]?) = wc.map some) (hR : isR.map (fun i => ws[i]?) = wr.map some) (hn : va_nd isR = true) (hdis : ∀ i ∈ isR, i ∉ isC)
    (kk : ∀ (r : Int32) (w' : va_W) (H1 : Heap) (locs1 : List Loc), post r w' → va_P D vwCl (wr ++ w') H1 → va_D A0 (wr ++ w') → va_S A0 H0 H1 locs1 → W p l e R s m args below meth c H1 locs1 (cells + mc) (slots + ms) Q (F0 m (pc + 3) ls (.int r :: rest))) : W p l e R s m args below meth c H locs cells slots Q (F0 m pc ls st0) := by
  have hFc := va_free (wc := wc) hD hS hA isC hC
  refine va_calli hr hS (fun q _ h => hFc q h) hFc (fun r u t H1 locs ht hvm hw hB hz1 hk1 hS => ?_)
  obtain ⟨hP1, hK1, hD1⟩ := hB
  rw [ht] at hP1
  obtain ⟨hP, hD⟩ := va_join hP hD isC isR hC hR hn hdis hk1 hFc hP1 hD1
  exact kk r u H1 locs hw hP hD hS
theorem gx_gov {A0 : Nat → Prop} {wc wr : va_W} {post : va_W → Prop} {a : Array Value} {mc ms : Nat} (hr : va_Run p l e R s m args below meth c H locs cells slots mc ms (F0 m pc ls st0) rest (va_Qv post (gX D cI cB cZ (va_A wc H.size)) (va_A wc H.size) a) (va_A wc H.size))
    (hP : va_P D vwCl ws H) (hD : va_D A0 ws) (hS : va_S A0 H0 H locs) (hA : ∀ q, H0.size ≤ q → A0 q) (isC isR : List Nat) (hC : isC.map (fun i => ws[i]?) = wc.map some) (hR : isR.map (fun i => ws[i]?) = wr.map some) (hn : va_nd isR = true) (hdis : ∀ i ∈ isR, i ∉ isC)
    (kk : ∀ (w' : va_W) (H1 : Heap) (locs1 : List Loc), post w' → va_P D vwCl (wr ++ w') H1 → va_D A0 (wr ++ w') → va_S A0 H0 H1 locs1 → W p l e R s m args below meth c H1 locs1 (cells + mc) (slots + ms) Q (F0 m (pc + 3) ls rest)) : W p l e R s m args below meth c H locs cells slots Q (F0 m pc ls st0) := by
  have hFc := va_free (wc := wc) hD hS hA isC hC
  refine va_callv hr hS (fun q _ h => hFc q h) hFc (fun u t H1 locs ht hvm hw hB hz1 hk1 hS => ?_)
  obtain ⟨hP1, hK1, hD1⟩ := hB
  rw [ht] at hP1
  obtain ⟨hP, hD⟩ := va_join hP hD isC isR hC hR hn hdis hk1 hFc hP1 hD1
  exact kk u H1 locs hw hP hD hS
theorem gx_preS {wc : va_W} {av : List Value} {L : List gNT} (hK : va_K D vwCl (gTy cI cB cZ) s) (hN : gN L s) (hP : va_P D vwCl ws H) (hD : va_D A ws) (isC : List Nat) (hC : isC.map (fun i => ws[i]?) = wc.map some) (hnC : va_nd isC = true) : PreS s H (va_Pc av (gE D cI cB cZ wc H.size L)) av :=
  ⟨gE.blind, fun U hU hW => ⟨rfl, by rw [hU], by rw [hU]; exact hP.sub isC (gx_fm hC), va_K.moved hW.alike hK, (hD.sub isC hnC hC).weaken (fun _ _ _ _ => trivial), hN.warm hW⟩⟩
theorem gx_preV {wc : va_W} {b : Nat} {As : List Value} {C : String} {ci q0 : Nat} {T : u_T} {N : Nat} {fs : List Value} {L : List gNT} (hK : va_K D vwCl (gTy cI cB cZ) s) (hN : gN L s) (hP : va_P D vwCl ws H) (hD : va_D A ws) (isC : List Nat) (hC : isC.map (fun i => ws[i]?) = wc.map some) (hnC : va_nd isC = true) (hc : vwCl[ci]? = some (C, T, N)) (he : wc[q0]? = some (b, .inr (ci, fs))) : PreV s H C b (va_Pc (.ref b :: As) (gE D cI cB cZ wc H.size L)) As :=
  ⟨gE.blind, va_recv hK (hP.sub isC (gx_fm hC)) hc he, fun U hU hW => ⟨rfl, by rw [hU], by rw [hU]; exact hP.sub isC (gx_fm hC), va_K.moved hW.alike hK, (hD.sub isC hnC hC).weaken (fun _ _ _ _ => trivial), hN.warm hW⟩⟩
end GX
theorem gMi.of {l : Launch} {y : MethodName} {ws ws' : List Cond} {rm : Room} {D : va_G} {cI cB cZ : ClassId} {L : List gNT} {av : List Value} {w : va_W} {post : Int32 → va_W → Prop} {cc : ByteArray} {maxL : Nat} {ret : Option FieldType} (hy : plainName y.cls = true) (hw : ws = Cond.code y cc maxL ret :: ws') (hlen : (lg_sl av).length ≤ maxL)
    (body : ∀ (p : Program) (e : Env) (s : State) (m : MethodId) (below : List Frame) (meth : Method) (c : Code) (A : Nat → Prop) (ls : Array Slot), p.tables.exec = Jvm.exec → c.code = cc → meth.sig.returnType = ret → meth.locks = false → c.maxLocals = maxL → (∀ w ∈ ws, w.before av.toArray s = true) → s.vm.findClass y.cls = some m.cls → meth.name = y.name → (∀ q : Nat, s.heap.size ≤ q → A q) → va_P D vwCl w s.heap → va_K D vwCl (gTy cI cB cZ) s → va_D A w → va_S A s.heap s.heap [] → gN L s → lv_has ls maxL (lv_args 0 av) →
      W p l e rm s m av.toArray below meth c s.heap [] 0 0 (MQ below (va_Qi post (gX D cI cB cZ A) A) av.toArray s rm.cells rm.slots A) (F0 m 0 ls [])) : gMi l y ws rm D cI cB cZ L av w post := by
  intro sz
  refine Met.ofW (cc := cc) (maxL := maxL) (ret := ret) hy hw ?_
  intro p e s m args below meth c s₁ B hml hv
  obtain ⟨rfl, hsz, hP, hK, hD0, hN⟩ := hv
  subst hsz
  have hl := lv_entry av (n := maxL) hlen
  rw [lg_entry_eq]
  exact body p e s m below meth c (va_A w s.heap.size) _ B.exec B.bytes B.returns B.notSynchronized hml (atoms_spec (ws := ws) B.pre) (findClass_of_methodNamed B.named) (name_of_methodNamed B.named B.method).1 (fun q h => Or.inr h) hP hK hD0.self va_S.rf hN hl
theorem gMv.of {l : Launch} {y : MethodName} {ws ws' : List Cond} {rm : Room} {D : va_G} {cI cB cZ : ClassId} {L : List gNT} {av : List Value} {w : va_W} {post : va_W → Prop} {cc : ByteArray} {maxL : Nat} {ret : Option FieldType} (hy : plainName y.cls = true) (hw : ws = Cond.code y cc maxL ret :: ws') (hlen : (lg_sl av).length ≤ maxL)
    (body : ∀ (p : Program) (e : Env) (s : State) (m : MethodId) (below : List Frame) (meth : Method) (c : Code) (A : Nat → Prop) (ls : Array Slot), p.tables.exec = Jvm.exec → c.code = cc → meth.sig.returnType = ret → meth.locks = false → c.maxLocals = maxL → (∀ w ∈ ws, w.before av.toArray s = true) → s.vm.findClass y.cls = some m.cls → meth.name = y.name → (∀ q : Nat, s.heap.size ≤ q → A q) → va_P D vwCl w s.heap → va_K D vwCl (gTy cI cB cZ) s → va_D A w → va_S A s.heap s.heap [] → gN L s → lv_has ls maxL (lv_args 0 av) →
      W p l e rm s m av.toArray below meth c s.heap [] 0 0 (MQ below (va_Qv post (gX D cI cB cZ A) A) av.toArray s rm.cells rm.slots A) (F0 m 0 ls [])) : gMv l y ws rm D cI cB cZ L av w post := by
  intro sz
  refine Met.ofW (cc := cc) (maxL := maxL) (ret := ret) hy hw ?_
  intro p e s m args below meth c s₁ B hml hv
  obtain ⟨rfl, hsz, hP, hK, hD0, hN⟩ := hv
  subst hsz
  have hl := lv_entry av (n := maxL) hlen
  rw [lg_entry_eq]
  exact body p e s m below meth c (va_A w s.heap.size) _ B.exec B.bytes B.returns B.notSynchronized hml (atoms_spec (ws := ws) B.pre) (findClass_of_methodNamed B.named) (name_of_methodNamed B.named B.method).1 (fun q h => Or.inr h) hP hK hD0.self va_S.rf hN hl
end
section
set_option maxHeartbeats 4000000 in
set_option maxRecDepth 100000 in
theorem c_X4_init (l : Launch) (D : va_G) (cI cB cZ : ClassId) (h0 : Nat)  : gMv l yX4_init wsX4_init ({ frames := 1, cells := 3, slots := 199, locals := 12 }) D cI cB cZ [] [.ref h0] [(h0, .inr (4, [.int 0, .null, .null, .null]))] (fun w9 => ∃ q1 : Nat, ∃ q2 : Nat, ∃ q3 : Nat, w9 = [(h0, .inr (4, [.int 0, .ref q1, .ref q2, .ref q3])), (q1, .inl (cI, 3, .inl (fun _ => 0))), (q2, .inl (cI, 4, .inl (fun _ => 0))), (q3, .inl (cI, 192, .inl (fun _ => 0)))]) := by
  refine gMv.of (cc := cX4_init) (maxL := 1) (ret := none) (by decide) rfl (Nat.le_of_ble_eq_true rfl) (fun p e s m below meth c A ls hx hb hr hlk hml hts hown hin hA hP hK hD hS hN hl => ?_)
  have hown : s.vm.findClass RX4 = some m.cls := hown
  have hl : lv_has ls 1 [(0, .ref h0)] := hl
  refine lv_aload_n hx hb dX4_init_0 rfl (lv_at hl 0 rfl) ?_
  refine W.objInit hx hb hown (hts (.methodLink RX4 3 objectInit) (by decide +kernel)) (hts (.instanceMethod objectInit) (by decide +kernel)) (hts (.code objectInit ⟨#[0xb1]⟩ 1 none) (by decide +kernel)) rfl (by rw [hml]; exact hl.1) rfl dX4_init_1 (Nat.le_of_ble_eq_true rfl) (Nat.le_of_ble_eq_true rfl) ?_
  refine W.eq (g2 := F0 m 4 ls []) rfl ?_
  refine lv_aload_n hx hb dX4_init_4 rfl (lv_at hl 0 rfl) ?_
  refine lv_iconst (v := 3) hx hb dX4_init_5 (by decide) ?_
  refine gx_newI hx hb (hts (.arrayClass .int) (by decide +kernel)) hK hP hD hS hA 3 (by decide +kernel) (by decide +kernel) (by decide +kernel) (Nat.le_of_ble_eq_true rfl) (Nat.le_of_ble_eq_true rfl) dX4_init_6 (fun q1 H hP hD hS => ?_)
  have hP : va_P D vwCl [(h0, .inr (4, [.int 0, .null, .null, .null])), (q1, .inl (cI, 3, .inl (fun _ => 0)))] H := hP
  have hD : va_D A [(h0, .inr (4, [.int 0, .null, .null, .null])), (q1, .inl (cI, 3, .inl (fun _ => 0)))] := hD
  refine W.widen (k := 1) (n := 3) (Nat.le_of_ble_eq_true rfl) (Nat.le_of_ble_eq_true rfl) ?_
  refine va_putF (D := D) (ci := 4) (v := .ref q1) (ty := (.array .int)) (C := RX4) (T := TX4) (N := 4) hx hb hts (fun _ h => List.mem_cons_of_mem _ (List.mem_append_right _ h)) tyX4 tyX4_ok nmX4 hown hK hP hD hS 0 rfl rfl 1 (by decide) (hts (.fieldLink RX4 9 "LitmusHall$Program" "lengths" "[I") (by decide +kernel)) (fun _ h9 => h9) rfl hin rfl (by decide +kernel) rfl rfl (Nat.le_of_ble_eq_true rfl) dX4_init_8 (fun H locs hP hD hS => ?_)
  have hP : va_P D vwCl [(h0, .inr (4, [.int 0, .ref q1, .null, .null])), (q1, .inl (cI, 3, .inl (fun _ => 0)))] H := hP
  have hD : va_D A [(h0, .inr (4, [.int 0, .ref q1, .null, .null])), (q1, .inl (cI, 3, .inl (fun _ => 0)))] := hD
  refine lv_aload_n hx hb dX4_init_11 rfl (lv_at hl 0 rfl) ?_
  refine lv_iconst (v := 4) hx hb dX4_init_12 (by decide) ?_
  refine gx_newI hx hb (hts (.arrayClass .int) (by decide +kernel)) hK hP hD hS hA 4 (by decide +kernel) (by decide +kernel) (by decide +kernel) (Nat.le_of_ble_eq_true rfl) (Nat.le_of_ble_eq_true rfl) dX4_init_13 (fun q2 H hP hD hS => ?_)
  have hP : va_P D vwCl [(h0, .inr (4, [.int 0, .ref q1, .null, .null])), (q1, .inl (cI, 3, .inl (fun _ => 0))), (q2, .inl (cI, 4, .inl (fun _ => 0)))] H := hP
  have hD : va_D A [(h0, .inr (4, [.int 0, .ref q1, .null, .null])), (q1, .inl (cI, 3, .inl (fun _ => 0))), (q2, .inl (cI, 4, .inl (fun _ => 0)))] := hD
  refine W.widen (k := 2) (n := 7) (Nat.le_of_ble_eq_true rfl) (Nat.le_of_ble_eq_true rfl) ?_
  refine va_putF (D := D) (ci := 4) (v := .ref q2) (ty := (.array .int)) (C := RX4) (T := TX4) (N := 4) hx hb hts (fun _ h => List.mem_cons_of_mem _ (List.mem_append_right _ h)) tyX4 tyX4_ok nmX4 hown hK hP hD hS 0 rfl rfl 2 (by decide) (hts (.fieldLink RX4 15 "LitmusHall$Program" "cells" "[I") (by decide +kernel)) (fun _ h9 => h9) rfl hin rfl (by decide +kernel) rfl rfl (Nat.le_of_ble_eq_true rfl) dX4_init_15 (fun H locs hP hD hS => ?_)
  have hP : va_P D vwCl [(h0, .inr (4, [.int 0, .ref q1, .ref q2, .null])), (q1, .inl (cI, 3, .inl (fun _ => 0))), (q2, .inl (cI, 4, .inl (fun _ => 0)))] H := hP
  have hD : va_D A [(h0, .inr (4, [.int 0, .ref q1, .ref q2, .null])), (q1, .inl (cI, 3, .inl (fun _ => 0))), (q2, .inl (cI, 4, .inl (fun _ => 0)))] := hD
  refine lv_aload_n hx hb dX4_init_18 rfl (lv_at hl 0 rfl) ?_
  refine lv_sipush (v := 192) hx hb dX4_init_19 (by decide) ?_
  refine gx_newI hx hb (hts (.arrayClass .int) (by decide +kernel)) hK hP hD hS hA 192 (by decide +kernel) (by decide +kernel) (by decide +kernel) (Nat.le_of_ble_eq_true rfl) (Nat.le_of_ble_eq_true rfl) dX4_init_22 (fun q3 H hP hD hS => ?_)
  have hP : va_P D vwCl [(h0, .inr (4, [.int 0, .ref q1, .ref q2, .null])), (q1, .inl (cI, 3, .inl (fun _ => 0))), (q2, .inl (cI, 4, .inl (fun _ => 0))), (q3, .inl (cI, 192, .inl (fun _ => 0)))] H := hP
  have hD : va_D A [(h0, .inr (4, [.int 0, .ref q1, .ref q2, .null])), (q1, .inl (cI, 3, .inl (fun _ => 0))), (q2, .inl (cI, 4, .inl (fun _ => 0))), (q3, .inl (cI, 192, .inl (fun _ => 0)))] := hD
  refine W.widen (k := 3) (n := 199) (Nat.le_of_ble_eq_true rfl) (Nat.le_of_ble_eq_true rfl) ?_
  refine va_putF (D := D) (ci := 4) (v := .ref q3) (ty := (.array .int)) (C := RX4) (T := TX4) (N := 4) hx hb hts (fun _ h => List.mem_cons_of_mem _ (List.mem_append_right _ h)) tyX4 tyX4_ok nmX4 hown hK hP hD hS 0 rfl rfl 3 (by decide) (hts (.fieldLink RX4 18 "LitmusHall$Program" "parts" "[I") (by decide +kernel)) (fun _ h9 => h9) rfl hin rfl (by decide +kernel) rfl rfl (Nat.le_of_ble_eq_true rfl) dX4_init_24 (fun H locs hP hD hS => ?_)
  have hP : va_P D vwCl [(h0, .inr (4, [.int 0, .ref q1, .ref q2, .ref q3])), (q1, .inl (cI, 3, .inl (fun _ => 0))), (q2, .inl (cI, 4, .inl (fun _ => 0))), (q3, .inl (cI, 192, .inl (fun _ => 0)))] H := hP
  have hD : va_D A [(h0, .inr (4, [.int 0, .ref q1, .ref q2, .ref q3])), (q1, .inl (cI, 3, .inl (fun _ => 0))), (q2, .inl (cI, 4, .inl (fun _ => 0))), (q3, .inl (cI, 192, .inl (fun _ => 0)))] := hD
  exact gx_vret hx hb hr hlk hK hP hD hS (Nat.le_of_ble_eq_true rfl) (Nat.le_of_ble_eq_true rfl) dX4_init_27 ⟨q1, q2, q3, rfl⟩
set_option maxHeartbeats 4000000 in
set_option maxRecDepth 100000 in
theorem c_X7_init (l : Launch) (D : va_G) (cI cB cZ : ClassId) (h0 : Nat)  : gMv l yX7_init wsX7_init ({ frames := 1, cells := 1, slots := 34, locals := 12 }) D cI cB cZ [] [.ref h0] [(h0, .inr (7, [.null]))] (fun w9 => ∃ q1 : Nat, w9 = [(h0, .inr (7, [.ref q1])), (q1, .inl (cI, 34, .inl (fun _ => 0)))]) := by
  refine gMv.of (cc := cX7_init) (maxL := 1) (ret := none) (by decide) rfl (Nat.le_of_ble_eq_true rfl) (fun p e s m below meth c A ls hx hb hr hlk hml hts hown hin hA hP hK hD hS hN hl => ?_)
  have hown : s.vm.findClass RX7 = some m.cls := hown
  have hl : lv_has ls 1 [(0, .ref h0)] := hl
  refine lv_aload_n hx hb dX7_init_0 rfl (lv_at hl 0 rfl) ?_
  refine W.objInit hx hb hown (hts (.methodLink RX7 5 objectInit) (by decide +kernel)) (hts (.instanceMethod objectInit) (by decide +kernel)) (hts (.code objectInit ⟨#[0xb1]⟩ 1 none) (by decide +kernel)) rfl (by rw [hml]; exact hl.1) rfl dX7_init_1 (Nat.le_of_ble_eq_true rfl) (Nat.le_of_ble_eq_true rfl) ?_
  refine W.eq (g2 := F0 m 4 ls []) rfl ?_
  refine lv_aload_n hx hb dX7_init_4 rfl (lv_at hl 0 rfl) ?_
  refine lv_bipush (v := 34) hx hb dX7_init_5 (by decide) ?_
  refine gx_newI hx hb (hts (.arrayClass .int) (by decide +kernel)) hK hP hD hS hA 34 (by decide +kernel) (by decide +kernel) (by decide +kernel) (Nat.le_of_ble_eq_true rfl) (Nat.le_of_ble_eq_true rfl) dX7_init_7 (fun q1 H hP hD hS => ?_)
  have hP : va_P D vwCl [(h0, .inr (7, [.null])), (q1, .inl (cI, 34, .inl (fun _ => 0)))] H := hP
  have hD : va_D A [(h0, .inr (7, [.null])), (q1, .inl (cI, 34, .inl (fun _ => 0)))] := hD
  refine W.widen (k := 1) (n := 34) (Nat.le_of_ble_eq_true rfl) (Nat.le_of_ble_eq_true rfl) ?_
  refine va_putF (D := D) (ci := 7) (v := .ref q1) (ty := (.array .int)) (C := RX7) (T := TX7) (N := 1) hx hb hts (fun _ h => List.mem_cons_of_mem _ (List.mem_append_right _ h)) tyX7 tyX7_ok nmX7 hown hK hP hD hS 0 rfl rfl 0 (by decide) (hts (.fieldLink RX7 11 "LitmusHall$State" "words" "[I") (by decide +kernel)) (fun _ h9 => h9) rfl hin rfl (by decide +kernel) rfl rfl (Nat.le_of_ble_eq_true rfl) dX7_init_9 (fun H locs hP hD hS => ?_)
  have hP : va_P D vwCl [(h0, .inr (7, [.ref q1])), (q1, .inl (cI, 34, .inl (fun _ => 0)))] H := hP
  have hD : va_D A [(h0, .inr (7, [.ref q1])), (q1, .inl (cI, 34, .inl (fun _ => 0)))] := hD
  exact gx_vret hx hb hr hlk hK hP hD hS (Nat.le_of_ble_eq_true rfl) (Nat.le_of_ble_eq_true rfl) dX7_init_12 ⟨q1, rfl⟩
set_option maxHeartbeats 4000000 in
set_option maxRecDepth 100000 in
theorem c_X2_init (l : Launch) (D : va_G) (cI cB cZ : ClassId) (h0 : Nat)  : gMv l yX2_init wsX2_init ({ frames := 1, cells := 1, slots := 17, locals := 12 }) D cI cB cZ [] [.ref h0] [(h0, .inr (2, [.int 0, .int 0, .int 0, .int 0, .null]))] (fun w9 => ∃ q1 : Nat, w9 = [(h0, .inr (2, [.int 0, .int 0, .int 0, .int 0, .ref q1])), (q1, .inl (cI, 17, .inl (fun _ => 0)))]) := by
  refine gMv.of (cc := cX2_init) (maxL := 1) (ret := none) (by decide) rfl (Nat.le_of_ble_eq_true rfl) (fun p e s m below meth c A ls hx hb hr hlk hml hts hown hin hA hP hK hD hS hN hl => ?_)
  have hown : s.vm.findClass RX2 = some m.cls := hown
  have hl : lv_has ls 1 [(0, .ref h0)] := hl
  refine lv_aload_n hx hb dX2_init_0 rfl (lv_at hl 0 rfl) ?_
  refine W.objInit hx hb hown (hts (.methodLink RX2 5 objectInit) (by decide +kernel)) (hts (.instanceMethod objectInit) (by decide +kernel)) (hts (.code objectInit ⟨#[0xb1]⟩ 1 none) (by decide +kernel)) rfl (by rw [hml]; exact hl.1) rfl dX2_init_1 (Nat.le_of_ble_eq_true rfl) (Nat.le_of_ble_eq_true rfl) ?_
  refine W.eq (g2 := F0 m 4 ls []) rfl ?_
  refine lv_aload_n hx hb dX2_init_4 rfl (lv_at hl 0 rfl) ?_
  refine lv_bipush (v := 17) hx hb dX2_init_5 (by decide) ?_
  refine gx_newI hx hb (hts (.arrayClass .int) (by decide +kernel)) hK hP hD hS hA 17 (by decide +kernel) (by decide +kernel) (by decide +kernel) (Nat.le_of_ble_eq_true rfl) (Nat.le_of_ble_eq_true rfl) dX2_init_7 (fun q1 H hP hD hS => ?_)
  have hP : va_P D vwCl [(h0, .inr (2, [.int 0, .int 0, .int 0, .int 0, .null])), (q1, .inl (cI, 17, .inl (fun _ => 0)))] H := hP
  have hD : va_D A [(h0, .inr (2, [.int 0, .int 0, .int 0, .int 0, .null])), (q1, .inl (cI, 17, .inl (fun _ => 0)))] := hD
  refine W.widen (k := 1) (n := 17) (Nat.le_of_ble_eq_true rfl) (Nat.le_of_ble_eq_true rfl) ?_
  refine va_put (D := D) (ci := 2) (v := .ref q1) (ty := (.array .int)) (C := RX2) (T := TX2) (N := 5) hx hb hts (fun _ h => List.mem_cons_of_mem _ (List.mem_append_right _ h)) tyX2 tyX2_ok nmX2 hown hK hP hD hS 0 rfl rfl 4 (by decide) (hts (.fieldLink RX2 11 "LitmusHall$Findings" "records" "[I") (by decide +kernel)) (fun _ h9 => h9) rfl (by decide +kernel) rfl rfl (Nat.le_of_ble_eq_true rfl) dX2_init_9 (fun H locs hP hD hS => ?_)
  have hP : va_P D vwCl [(h0, .inr (2, [.int 0, .int 0, .int 0, .int 0, .ref q1])), (q1, .inl (cI, 17, .inl (fun _ => 0)))] H := hP
  have hD : va_D A [(h0, .inr (2, [.int 0, .int 0, .int 0, .int 0, .ref q1])), (q1, .inl (cI, 17, .inl (fun _ => 0)))] := hD
  exact gx_vret hx hb hr hlk hK hP hD hS (Nat.le_of_ble_eq_true rfl) (Nat.le_of_ble_eq_true rfl) dX2_init_12 ⟨q1, rfl⟩
set_option maxHeartbeats 4000000 in
set_option maxRecDepth 100000 in
theorem c_X5_init (l : Launch) (D : va_G) (cI cB cZ : ClassId) (h0 : Nat)  : gMv l yX5_init wsX5_init ({ frames := 1, cells := 1, slots := 38, locals := 12 }) D cI cB cZ [] [.ref h0] [(h0, .inr (5, [.int 0, .int 0, .int 0, .int 0, .int 0, .int 0, .null]))] (fun w9 => ∃ q1 : Nat, w9 = [(h0, .inr (5, [.int 0, .int 0, .int 0, .int 0, .int 0, .int 0, .ref q1])), (q1, .inl (cI, 38, .inl (fun _ => 0)))]) := by
  refine gMv.of (cc := cX5_init) (maxL := 1) (ret := none) (by decide) rfl (Nat.le_of_ble_eq_true rfl) (fun p e s m below meth c A ls hx hb hr hlk hml hts hown hin hA hP hK hD hS hN hl => ?_)
  have hown : s.vm.findClass RX5 = some m.cls := hown
  have hl : lv_has ls 1 [(0, .ref h0)] := hl
  refine lv_aload_n hx hb dX5_init_0 rfl (lv_at hl 0 rfl) ?_
  refine W.objInit hx hb hown (hts (.methodLink RX5 3 objectInit) (by decide +kernel)) (hts (.instanceMethod objectInit) (by decide +kernel)) (hts (.code objectInit ⟨#[0xb1]⟩ 1 none) (by decide +kernel)) rfl (by rw [hml]; exact hl.1) rfl dX5_init_1 (Nat.le_of_ble_eq_true rfl) (Nat.le_of_ble_eq_true rfl) ?_
  refine W.eq (g2 := F0 m 4 ls []) rfl ?_
  refine lv_aload_n hx hb dX5_init_4 rfl (lv_at hl 0 rfl) ?_
  refine lv_bipush (v := 38) hx hb dX5_init_5 (by decide) ?_
  refine gx_newI hx hb (hts (.arrayClass .int) (by decide +kernel)) hK hP hD hS hA 38 (by decide +kernel) (by decide +kernel) (by decide +kernel) (Nat.le_of_ble_eq_true rfl) (Nat.le_of_ble_eq_true rfl) dX5_init_7 (fun q1 H hP hD hS => ?_)
  have hP : va_P D vwCl [(h0, .inr (5, [.int 0, .int 0, .int 0, .int 0, .int 0, .int 0, .null])), (q1, .inl (cI, 38, .inl (fun _ => 0)))] H := hP
  have hD : va_D A [(h0, .inr (5, [.int 0, .int 0, .int 0, .int 0, .int 0, .int 0, .null])), (q1, .inl (cI, 38, .inl (fun _ => 0)))] := hD
  refine W.widen (k := 1) (n := 38) (Nat.le_of_ble_eq_true rfl) (Nat.le_of_ble_eq_true rfl) ?_
  refine va_putF (D := D) (ci := 5) (v := .ref q1) (ty := (.array .int)) (C := RX5) (T := TX5) (N := 7) hx hb hts (fun _ h => List.mem_cons_of_mem _ (List.mem_append_right _ h)) tyX5 tyX5_ok nmX5 hown hK hP hD hS 0 rfl rfl 6 (by decide) (hts (.fieldLink RX5 9 "LitmusHall$Race" "path" "[I") (by decide +kernel)) (fun _ h9 => h9) rfl hin rfl (by decide +kernel) rfl rfl (Nat.le_of_ble_eq_true rfl) dX5_init_9 (fun H locs hP hD hS => ?_)
  have hP : va_P D vwCl [(h0, .inr (5, [.int 0, .int 0, .int 0, .int 0, .int 0, .int 0, .ref q1])), (q1, .inl (cI, 38, .inl (fun _ => 0)))] H := hP
  have hD : va_D A [(h0, .inr (5, [.int 0, .int 0, .int 0, .int 0, .int 0, .int 0, .ref q1])), (q1, .inl (cI, 38, .inl (fun _ => 0)))] := hD
  exact gx_vret hx hb hr hlk hK hP hD hS (Nat.le_of_ble_eq_true rfl) (Nat.le_of_ble_eq_true rfl) dX5_init_12 ⟨q1, rfl⟩
end
