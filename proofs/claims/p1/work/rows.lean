section
-- ===== PART A: goes FIRST, ahead of the names: the tables' words, and 'selects' of the private methods out of them =====
/-- a private method of a class that the tables say can be made, by its rows of tables_1 -/
def lw_okq (q : MethodName × Nat) : Prop := (q.1.cls ≠ "java/lang/invoke/MethodHandle" ∧ q.1.cls ≠ "java/lang/invoke/VarHandle") ∧ Cond.instantiable q.1.cls q.2 ∈ tables_1 ∧ Cond.privateMethod q.1 ∈ tables_1 ∧ Cond.instanceMethod q.1 ∈ tables_1
theorem lw_p0 : lw_okq (⟨"SilkMill", "cocoonAt", "(II)LSilkMill$Cocoon;"⟩, 12) := ⟨⟨by decide +kernel, by decide +kernel⟩, List.mem_of_getElem? (i := 27) (by decide +kernel), List.mem_of_getElem? (i := 348) (by decide +kernel), List.mem_of_getElem? (i := 349) (by decide +kernel)⟩
theorem lw_p1 : lw_okq (⟨"SilkMill", "listIdle", "(I)I"⟩, 12) := ⟨⟨by decide +kernel, by decide +kernel⟩, List.mem_of_getElem? (i := 27) (by decide +kernel), List.mem_of_getElem? (i := 371) (by decide +kernel), List.mem_of_getElem? (i := 372) (by decide +kernel)⟩
theorem lw_p2 : lw_okq (⟨"SilkMill$Cocoon", "breaksAt", "(I)Z"⟩, 10) := ⟨⟨by decide +kernel, by decide +kernel⟩, List.mem_of_getElem? (i := 289) (by decide +kernel), List.mem_of_getElem? (i := 380) (by decide +kernel), List.mem_of_getElem? (i := 381) (by decide +kernel)⟩
theorem lw_p3 : lw_okq (⟨"SilkMill", "potAt", "(I)LSilkMill$Pot;"⟩, 12) := ⟨⟨by decide +kernel, by decide +kernel⟩, List.mem_of_getElem? (i := 27) (by decide +kernel), List.mem_of_getElem? (i := 520) (by decide +kernel), List.mem_of_getElem? (i := 521) (by decide +kernel)⟩
theorem lw_p4 : lw_okq (⟨"SilkMill$Row", "cellOf", "(I)I"⟩, 3) := ⟨⟨by decide +kernel, by decide +kernel⟩, List.mem_of_getElem? (i := 399) (by decide +kernel), List.mem_of_getElem? (i := 536) (by decide +kernel), List.mem_of_getElem? (i := 537) (by decide +kernel)⟩
theorem lw_p5 : lw_okq (⟨"SilkMill$Tape", "advance", "()V"⟩, 7) := ⟨⟨by decide +kernel, by decide +kernel⟩, List.mem_of_getElem? (i := 39) (by decide +kernel), List.mem_of_getElem? (i := 565) (by decide +kernel), List.mem_of_getElem? (i := 566) (by decide +kernel)⟩
theorem lw_p6 : lw_okq (⟨"SilkMill$Tape", "byteAt", "(I)I"⟩, 7) := ⟨⟨by decide +kernel, by decide +kernel⟩, List.mem_of_getElem? (i := 39) (by decide +kernel), List.mem_of_getElem? (i := 569) (by decide +kernel), List.mem_of_getElem? (i := 570) (by decide +kernel)⟩
theorem lw_p7 : lw_okq (⟨"SilkMill$Tape", "readRule", "(LSilkMill$Rules;)Z"⟩, 7) := ⟨⟨by decide +kernel, by decide +kernel⟩, List.mem_of_getElem? (i := 39) (by decide +kernel), List.mem_of_getElem? (i := 585) (by decide +kernel), List.mem_of_getElem? (i := 586) (by decide +kernel)⟩
theorem lw_p8 : lw_okq (⟨"SilkMill$Tape", "isWord", "(Ljava/lang/String;)Z"⟩, 7) := ⟨⟨by decide +kernel, by decide +kernel⟩, List.mem_of_getElem? (i := 39) (by decide +kernel), List.mem_of_getElem? (i := 590) (by decide +kernel), List.mem_of_getElem? (i := 591) (by decide +kernel)⟩
theorem lw_p9 : lw_okq (⟨"SilkMill$Tape", "actAtHand", "()I"⟩, 7) := ⟨⟨by decide +kernel, by decide +kernel⟩, List.mem_of_getElem? (i := 39) (by decide +kernel), List.mem_of_getElem? (i := 642) (by decide +kernel), List.mem_of_getElem? (i := 643) (by decide +kernel)⟩
theorem lw_p10 : lw_okq (⟨"SilkMill$Tape", "fail", "(I)Z"⟩, 7) := ⟨⟨by decide +kernel, by decide +kernel⟩, List.mem_of_getElem? (i := 39) (by decide +kernel), List.mem_of_getElem? (i := 652) (by decide +kernel), List.mem_of_getElem? (i := 653) (by decide +kernel)⟩
theorem lw_p11 : lw_okq (⟨"SilkMill$Tape", "readConditions", "(LSilkMill$Rules;)Z"⟩, 7) := ⟨⟨by decide +kernel, by decide +kernel⟩, List.mem_of_getElem? (i := 39) (by decide +kernel), List.mem_of_getElem? (i := 660) (by decide +kernel), List.mem_of_getElem? (i := 661) (by decide +kernel)⟩
theorem lw_p12 : lw_okq (⟨"SilkMill$Tape", "readCondition", "(LSilkMill$Rules;)Z"⟩, 7) := ⟨⟨by decide +kernel, by decide +kernel⟩, List.mem_of_getElem? (i := 39) (by decide +kernel), List.mem_of_getElem? (i := 664) (by decide +kernel), List.mem_of_getElem? (i := 665) (by decide +kernel)⟩
theorem lw_p13 : lw_okq (⟨"SilkMill$Tape", "fieldAtHand", "()I"⟩, 7) := ⟨⟨by decide +kernel, by decide +kernel⟩, List.mem_of_getElem? (i := 39) (by decide +kernel), List.mem_of_getElem? (i := 668) (by decide +kernel), List.mem_of_getElem? (i := 669) (by decide +kernel)⟩
theorem lw_p14 : lw_okq (⟨"SilkMill$Tape", "isSign", "(C)Z"⟩, 7) := ⟨⟨by decide +kernel, by decide +kernel⟩, List.mem_of_getElem? (i := 39) (by decide +kernel), List.mem_of_getElem? (i := 679) (by decide +kernel), List.mem_of_getElem? (i := 680) (by decide +kernel)⟩
theorem lw_p15 : lw_okq (⟨"SilkMill$Tape", "numberAtHand", "()I"⟩, 7) := ⟨⟨by decide +kernel, by decide +kernel⟩, List.mem_of_getElem? (i := 39) (by decide +kernel), List.mem_of_getElem? (i := 683) (by decide +kernel), List.mem_of_getElem? (i := 684) (by decide +kernel)⟩
def lw_privs_1 : List (MethodName × Nat) := [(⟨"SilkMill", "cocoonAt", "(II)LSilkMill$Cocoon;"⟩, 12), (⟨"SilkMill", "listIdle", "(I)I"⟩, 12), (⟨"SilkMill$Cocoon", "breaksAt", "(I)Z"⟩, 10), (⟨"SilkMill", "potAt", "(I)LSilkMill$Pot;"⟩, 12), (⟨"SilkMill$Row", "cellOf", "(I)I"⟩, 3), (⟨"SilkMill$Tape", "advance", "()V"⟩, 7), (⟨"SilkMill$Tape", "byteAt", "(I)I"⟩, 7), (⟨"SilkMill$Tape", "readRule", "(LSilkMill$Rules;)Z"⟩, 7), (⟨"SilkMill$Tape", "isWord", "(Ljava/lang/String;)Z"⟩, 7), (⟨"SilkMill$Tape", "actAtHand", "()I"⟩, 7), (⟨"SilkMill$Tape", "fail", "(I)Z"⟩, 7), (⟨"SilkMill$Tape", "readConditions", "(LSilkMill$Rules;)Z"⟩, 7), (⟨"SilkMill$Tape", "readCondition", "(LSilkMill$Rules;)Z"⟩, 7), (⟨"SilkMill$Tape", "fieldAtHand", "()I"⟩, 7), (⟨"SilkMill$Tape", "isSign", "(C)Z"⟩, 7), (⟨"SilkMill$Tape", "numberAtHand", "()I"⟩, 7)]
theorem lw_r1 : ∀ q ∈ lw_privs_1, lw_okq q := List.forall_mem_cons.mpr ⟨lw_p0, List.forall_mem_cons.mpr ⟨lw_p1, List.forall_mem_cons.mpr ⟨lw_p2, List.forall_mem_cons.mpr ⟨lw_p3, List.forall_mem_cons.mpr ⟨lw_p4, List.forall_mem_cons.mpr ⟨lw_p5, List.forall_mem_cons.mpr ⟨lw_p6, List.forall_mem_cons.mpr ⟨lw_p7, List.forall_mem_cons.mpr ⟨lw_p8, List.forall_mem_cons.mpr ⟨lw_p9, List.forall_mem_cons.mpr ⟨lw_p10, List.forall_mem_cons.mpr ⟨lw_p11, List.forall_mem_cons.mpr ⟨lw_p12, List.forall_mem_cons.mpr ⟨lw_p13, List.forall_mem_cons.mpr ⟨lw_p14, List.forall_mem_cons.mpr ⟨lw_p15, fun _ h => absurd h List.not_mem_nil⟩⟩⟩⟩⟩⟩⟩⟩⟩⟩⟩⟩⟩⟩⟩⟩
theorem lw_p16 : lw_okq (⟨"SilkMill$Tape", "readAct", "(LSilkMill$Rules;)Z"⟩, 7) := ⟨⟨by decide +kernel, by decide +kernel⟩, List.mem_of_getElem? (i := 39) (by decide +kernel), List.mem_of_getElem? (i := 692) (by decide +kernel), List.mem_of_getElem? (i := 693) (by decide +kernel)⟩
theorem lw_p17 : lw_okq (⟨"SilkMill$Pot", "searchLost", "()V"⟩, 12) := ⟨⟨by decide +kernel, by decide +kernel⟩, List.mem_of_getElem? (i := 393) (by decide +kernel), List.mem_of_getElem? (i := 712) (by decide +kernel), List.mem_of_getElem? (i := 713) (by decide +kernel)⟩
theorem lw_p18 : lw_okq (⟨"SilkMill$Pot", "fetchLost", "()V"⟩, 12) := ⟨⟨by decide +kernel, by decide +kernel⟩, List.mem_of_getElem? (i := 393) (by decide +kernel), List.mem_of_getElem? (i := 716) (by decide +kernel), List.mem_of_getElem? (i := 717) (by decide +kernel)⟩
theorem lw_p19 : lw_okq (⟨"SilkMill$Pot", "applyRules", "(LSilkMill$Store;)V"⟩, 12) := ⟨⟨by decide +kernel, by decide +kernel⟩, List.mem_of_getElem? (i := 393) (by decide +kernel), List.mem_of_getElem? (i := 724) (by decide +kernel), List.mem_of_getElem? (i := 725) (by decide +kernel)⟩
theorem lw_p20 : lw_okq (⟨"SilkMill$Pot", "allHold", "(II)Z"⟩, 12) := ⟨⟨by decide +kernel, by decide +kernel⟩, List.mem_of_getElem? (i := 393) (by decide +kernel), List.mem_of_getElem? (i := 728) (by decide +kernel), List.mem_of_getElem? (i := 729) (by decide +kernel)⟩
theorem lw_p21 : lw_okq (⟨"SilkMill$Pot", "valueOf", "(II)I"⟩, 12) := ⟨⟨by decide +kernel, by decide +kernel⟩, List.mem_of_getElem? (i := 393) (by decide +kernel), List.mem_of_getElem? (i := 732) (by decide +kernel), List.mem_of_getElem? (i := 733) (by decide +kernel)⟩
theorem lw_p22 : lw_okq (⟨"SilkMill$Pot", "act", "(IILSilkMill$Store;)V"⟩, 12) := ⟨⟨by decide +kernel, by decide +kernel⟩, List.mem_of_getElem? (i := 393) (by decide +kernel), List.mem_of_getElem? (i := 758) (by decide +kernel), List.mem_of_getElem? (i := 759) (by decide +kernel)⟩
theorem lw_p23 : lw_okq (⟨"SilkMill$Pot", "castFirst", "()V"⟩, 12) := ⟨⟨by decide +kernel, by decide +kernel⟩, List.mem_of_getElem? (i := 393) (by decide +kernel), List.mem_of_getElem? (i := 762) (by decide +kernel), List.mem_of_getElem? (i := 763) (by decide +kernel)⟩
theorem lw_p24 : lw_okq (⟨"SilkMill$Pot", "dropThinnest", "()V"⟩, 12) := ⟨⟨by decide +kernel, by decide +kernel⟩, List.mem_of_getElem? (i := 393) (by decide +kernel), List.mem_of_getElem? (i := 766) (by decide +kernel), List.mem_of_getElem? (i := 767) (by decide +kernel)⟩
theorem lw_p25 : lw_okq (⟨"SilkMill$Pot", "findFirst", "()V"⟩, 12) := ⟨⟨by decide +kernel, by decide +kernel⟩, List.mem_of_getElem? (i := 393) (by decide +kernel), List.mem_of_getElem? (i := 778) (by decide +kernel), List.mem_of_getElem? (i := 779) (by decide +kernel)⟩
theorem lw_p26 : lw_okq (⟨"SilkMill$Pot", "throwLast", "(LSilkMill$Store;)V"⟩, 12) := ⟨⟨by decide +kernel, by decide +kernel⟩, List.mem_of_getElem? (i := 393) (by decide +kernel), List.mem_of_getElem? (i := 782) (by decide +kernel), List.mem_of_getElem? (i := 783) (by decide +kernel)⟩
theorem lw_p27 : lw_okq (⟨"SilkMill$Pot", "drawMetre", "(LSilkMill$Store;)V"⟩, 12) := ⟨⟨by decide +kernel, by decide +kernel⟩, List.mem_of_getElem? (i := 393) (by decide +kernel), List.mem_of_getElem? (i := 876) (by decide +kernel), List.mem_of_getElem? (i := 877) (by decide +kernel)⟩
theorem lw_p28 : lw_okq (⟨"SilkMill$Pot", "drawEnd", "(LSilkMill$Cocoon;I)V"⟩, 12) := ⟨⟨by decide +kernel, by decide +kernel⟩, List.mem_of_getElem? (i := 393) (by decide +kernel), List.mem_of_getElem? (i := 884) (by decide +kernel), List.mem_of_getElem? (i := 885) (by decide +kernel)⟩
theorem lw_p29 : lw_okq (⟨"SilkMill$Strand", "makeRoomForPiece", "()V"⟩, 9) := ⟨⟨by decide +kernel, by decide +kernel⟩, List.mem_of_getElem? (i := 419) (by decide +kernel), List.mem_of_getElem? (i := 896) (by decide +kernel), List.mem_of_getElem? (i := 897) (by decide +kernel)⟩
theorem lw_p30 : lw_okq (⟨"SilkMill$Draw", "notDrawnFrom", "(II)I"⟩, 4) := ⟨⟨by decide +kernel, by decide +kernel⟩, List.mem_of_getElem? (i := 197) (by decide +kernel), List.mem_of_getElem? (i := 945) (by decide +kernel), List.mem_of_getElem? (i := 946) (by decide +kernel)⟩
theorem lw_p31 : lw_okq (⟨"SilkMill$Draw", "isDrawn", "(I)Z"⟩, 4) := ⟨⟨by decide +kernel, by decide +kernel⟩, List.mem_of_getElem? (i := 197) (by decide +kernel), List.mem_of_getElem? (i := 949) (by decide +kernel), List.mem_of_getElem? (i := 950) (by decide +kernel)⟩
def lw_privs_2 : List (MethodName × Nat) := [(⟨"SilkMill$Tape", "readAct", "(LSilkMill$Rules;)Z"⟩, 7), (⟨"SilkMill$Pot", "searchLost", "()V"⟩, 12), (⟨"SilkMill$Pot", "fetchLost", "()V"⟩, 12), (⟨"SilkMill$Pot", "applyRules", "(LSilkMill$Store;)V"⟩, 12), (⟨"SilkMill$Pot", "allHold", "(II)Z"⟩, 12), (⟨"SilkMill$Pot", "valueOf", "(II)I"⟩, 12), (⟨"SilkMill$Pot", "act", "(IILSilkMill$Store;)V"⟩, 12), (⟨"SilkMill$Pot", "castFirst", "()V"⟩, 12), (⟨"SilkMill$Pot", "dropThinnest", "()V"⟩, 12), (⟨"SilkMill$Pot", "findFirst", "()V"⟩, 12), (⟨"SilkMill$Pot", "throwLast", "(LSilkMill$Store;)V"⟩, 12), (⟨"SilkMill$Pot", "drawMetre", "(LSilkMill$Store;)V"⟩, 12), (⟨"SilkMill$Pot", "drawEnd", "(LSilkMill$Cocoon;I)V"⟩, 12), (⟨"SilkMill$Strand", "makeRoomForPiece", "()V"⟩, 9), (⟨"SilkMill$Draw", "notDrawnFrom", "(II)I"⟩, 4), (⟨"SilkMill$Draw", "isDrawn", "(I)Z"⟩, 4)]
theorem lw_r2 : ∀ q ∈ lw_privs_2, lw_okq q := List.forall_mem_cons.mpr ⟨lw_p16, List.forall_mem_cons.mpr ⟨lw_p17, List.forall_mem_cons.mpr ⟨lw_p18, List.forall_mem_cons.mpr ⟨lw_p19, List.forall_mem_cons.mpr ⟨lw_p20, List.forall_mem_cons.mpr ⟨lw_p21, List.forall_mem_cons.mpr ⟨lw_p22, List.forall_mem_cons.mpr ⟨lw_p23, List.forall_mem_cons.mpr ⟨lw_p24, List.forall_mem_cons.mpr ⟨lw_p25, List.forall_mem_cons.mpr ⟨lw_p26, List.forall_mem_cons.mpr ⟨lw_p27, List.forall_mem_cons.mpr ⟨lw_p28, List.forall_mem_cons.mpr ⟨lw_p29, List.forall_mem_cons.mpr ⟨lw_p30, List.forall_mem_cons.mpr ⟨lw_p31, fun _ h => absurd h List.not_mem_nil⟩⟩⟩⟩⟩⟩⟩⟩⟩⟩⟩⟩⟩⟩⟩⟩
theorem lw_p32 : lw_okq (⟨"SilkMill", "shelfAt", "(I)LSilkMill$Place;"⟩, 12) := ⟨⟨by decide +kernel, by decide +kernel⟩, List.mem_of_getElem? (i := 27) (by decide +kernel), List.mem_of_getElem? (i := 974) (by decide +kernel), List.mem_of_getElem? (i := 975) (by decide +kernel)⟩
theorem lw_p33 : lw_okq (⟨"SilkMill$Place", "sumOfWord", "()I"⟩, 5) := ⟨⟨by decide +kernel, by decide +kernel⟩, List.mem_of_getElem? (i := 221) (by decide +kernel), List.mem_of_getElem? (i := 1002) (by decide +kernel), List.mem_of_getElem? (i := 1003) (by decide +kernel)⟩
theorem lw_p34 : lw_okq (⟨"SilkMill$Place", "returnCocoon", "()I"⟩, 5) := ⟨⟨by decide +kernel, by decide +kernel⟩, List.mem_of_getElem? (i := 221) (by decide +kernel), List.mem_of_getElem? (i := 1006) (by decide +kernel), List.mem_of_getElem? (i := 1007) (by decide +kernel)⟩
theorem lw_p35 : lw_okq (⟨"SilkMill$Store", "markMix", "(Z)V"⟩, 13) := ⟨⟨by decide +kernel, by decide +kernel⟩, List.mem_of_getElem? (i := 109) (by decide +kernel), List.mem_of_getElem? (i := 1056) (by decide +kernel), List.mem_of_getElem? (i := 1057) (by decide +kernel)⟩
theorem lw_p36 : lw_okq (⟨"SilkMill", "silkThatGrows", "()I"⟩, 12) := ⟨⟨by decide +kernel, by decide +kernel⟩, List.mem_of_getElem? (i := 27) (by decide +kernel), List.mem_of_getElem? (i := 1096) (by decide +kernel), List.mem_of_getElem? (i := 1097) (by decide +kernel)⟩
theorem lw_p37 : lw_okq (⟨"java/lang/Throwable", "fillInStackTrace", "(I)Ljava/lang/Throwable;"⟩, 6) := ⟨⟨by decide +kernel, by decide +kernel⟩, List.mem_of_getElem? (i := 1145) (by decide +kernel), List.mem_of_getElem? (i := 1143) (by decide +kernel), List.mem_of_getElem? (i := 1144) (by decide +kernel)⟩
theorem lw_p38 : lw_okq (⟨"SilkMillModel", "isCocoon", "(II)Z"⟩, 66) := ⟨⟨by decide +kernel, by decide +kernel⟩, List.mem_of_getElem? (i := 1204) (by decide +kernel), List.mem_of_getElem? (i := 1426) (by decide +kernel), List.mem_of_getElem? (i := 1427) (by decide +kernel)⟩
theorem lw_p39 : lw_okq (⟨"SilkMillModel", "lengthOf", "(I)I"⟩, 66) := ⟨⟨by decide +kernel, by decide +kernel⟩, List.mem_of_getElem? (i := 1204) (by decide +kernel), List.mem_of_getElem? (i := 1430) (by decide +kernel), List.mem_of_getElem? (i := 1431) (by decide +kernel)⟩
theorem lw_p40 : lw_okq (⟨"SilkMillModel", "fineOf", "(II)I"⟩, 66) := ⟨⟨by decide +kernel, by decide +kernel⟩, List.mem_of_getElem? (i := 1204) (by decide +kernel), List.mem_of_getElem? (i := 1441) (by decide +kernel), List.mem_of_getElem? (i := 1442) (by decide +kernel)⟩
theorem lw_p41 : lw_okq (⟨"SilkMillModel", "silk", "(III)I"⟩, 66) := ⟨⟨by decide +kernel, by decide +kernel⟩, List.mem_of_getElem? (i := 1204) (by decide +kernel), List.mem_of_getElem? (i := 1445) (by decide +kernel), List.mem_of_getElem? (i := 1446) (by decide +kernel)⟩
theorem lw_p42 : lw_okq (⟨"SilkMillModel", "breaks", "(II)Z"⟩, 66) := ⟨⟨by decide +kernel, by decide +kernel⟩, List.mem_of_getElem? (i := 1204) (by decide +kernel), List.mem_of_getElem? (i := 1457) (by decide +kernel), List.mem_of_getElem? (i := 1458) (by decide +kernel)⟩
theorem lw_p43 : lw_okq (⟨"SilkMillModel", "isPot", "(I)Z"⟩, 66) := ⟨⟨by decide +kernel, by decide +kernel⟩, List.mem_of_getElem? (i := 1204) (by decide +kernel), List.mem_of_getElem? (i := 1469) (by decide +kernel), List.mem_of_getElem? (i := 1470) (by decide +kernel)⟩
theorem lw_p44 : lw_okq (⟨"SilkMillModel", "many", "(II)I"⟩, 66) := ⟨⟨by decide +kernel, by decide +kernel⟩, List.mem_of_getElem? (i := 1204) (by decide +kernel), List.mem_of_getElem? (i := 1477) (by decide +kernel), List.mem_of_getElem? (i := 1478) (by decide +kernel)⟩
theorem lw_p45 : lw_okq (⟨"SilkMillModel", "comes", "(IIII)V"⟩, 66) := ⟨⟨by decide +kernel, by decide +kernel⟩, List.mem_of_getElem? (i := 1204) (by decide +kernel), List.mem_of_getElem? (i := 1481) (by decide +kernel), List.mem_of_getElem? (i := 1482) (by decide +kernel)⟩
theorem lw_p46 : lw_okq (⟨"SilkMillModel", "token", "()V"⟩, 66) := ⟨⟨by decide +kernel, by decide +kernel⟩, List.mem_of_getElem? (i := 1204) (by decide +kernel), List.mem_of_getElem? (i := 1497) (by decide +kernel), List.mem_of_getElem? (i := 1498) (by decide +kernel)⟩
theorem lw_p47 : lw_okq (⟨"SilkMillModel", "byteAt", "(I)I"⟩, 66) := ⟨⟨by decide +kernel, by decide +kernel⟩, List.mem_of_getElem? (i := 1204) (by decide +kernel), List.mem_of_getElem? (i := 1501) (by decide +kernel), List.mem_of_getElem? (i := 1502) (by decide +kernel)⟩
def lw_privs_3 : List (MethodName × Nat) := [(⟨"SilkMill", "shelfAt", "(I)LSilkMill$Place;"⟩, 12), (⟨"SilkMill$Place", "sumOfWord", "()I"⟩, 5), (⟨"SilkMill$Place", "returnCocoon", "()I"⟩, 5), (⟨"SilkMill$Store", "markMix", "(Z)V"⟩, 13), (⟨"SilkMill", "silkThatGrows", "()I"⟩, 12), (⟨"java/lang/Throwable", "fillInStackTrace", "(I)Ljava/lang/Throwable;"⟩, 6), (⟨"SilkMillModel", "isCocoon", "(II)Z"⟩, 66), (⟨"SilkMillModel", "lengthOf", "(I)I"⟩, 66), (⟨"SilkMillModel", "fineOf", "(II)I"⟩, 66), (⟨"SilkMillModel", "silk", "(III)I"⟩, 66), (⟨"SilkMillModel", "breaks", "(II)Z"⟩, 66), (⟨"SilkMillModel", "isPot", "(I)Z"⟩, 66), (⟨"SilkMillModel", "many", "(II)I"⟩, 66), (⟨"SilkMillModel", "comes", "(IIII)V"⟩, 66), (⟨"SilkMillModel", "token", "()V"⟩, 66), (⟨"SilkMillModel", "byteAt", "(I)I"⟩, 66)]
theorem lw_r3 : ∀ q ∈ lw_privs_3, lw_okq q := List.forall_mem_cons.mpr ⟨lw_p32, List.forall_mem_cons.mpr ⟨lw_p33, List.forall_mem_cons.mpr ⟨lw_p34, List.forall_mem_cons.mpr ⟨lw_p35, List.forall_mem_cons.mpr ⟨lw_p36, List.forall_mem_cons.mpr ⟨lw_p37, List.forall_mem_cons.mpr ⟨lw_p38, List.forall_mem_cons.mpr ⟨lw_p39, List.forall_mem_cons.mpr ⟨lw_p40, List.forall_mem_cons.mpr ⟨lw_p41, List.forall_mem_cons.mpr ⟨lw_p42, List.forall_mem_cons.mpr ⟨lw_p43, List.forall_mem_cons.mpr ⟨lw_p44, List.forall_mem_cons.mpr ⟨lw_p45, List.forall_mem_cons.mpr ⟨lw_p46, List.forall_mem_cons.mpr ⟨lw_p47, fun _ h => absurd h List.not_mem_nil⟩⟩⟩⟩⟩⟩⟩⟩⟩⟩⟩⟩⟩⟩⟩⟩
theorem lw_p48 : lw_okq (⟨"SilkMillModel", "rule", "()Z"⟩, 66) := ⟨⟨by decide +kernel, by decide +kernel⟩, List.mem_of_getElem? (i := 1204) (by decide +kernel), List.mem_of_getElem? (i := 1505) (by decide +kernel), List.mem_of_getElem? (i := 1506) (by decide +kernel)⟩
theorem lw_p49 : lw_okq (⟨"SilkMillModel", "is", "(Ljava/lang/String;)Z"⟩, 66) := ⟨⟨by decide +kernel, by decide +kernel⟩, List.mem_of_getElem? (i := 1204) (by decide +kernel), List.mem_of_getElem? (i := 1510) (by decide +kernel), List.mem_of_getElem? (i := 1511) (by decide +kernel)⟩
theorem lw_p50 : lw_okq (⟨"SilkMillModel", "which", "(Ljava/lang/String;)I"⟩, 66) := ⟨⟨by decide +kernel, by decide +kernel⟩, List.mem_of_getElem? (i := 1204) (by decide +kernel), List.mem_of_getElem? (i := 1517) (by decide +kernel), List.mem_of_getElem? (i := 1518) (by decide +kernel)⟩
theorem lw_p51 : lw_okq (⟨"SilkMillModel", "wrong", "(I)Z"⟩, 66) := ⟨⟨by decide +kernel, by decide +kernel⟩, List.mem_of_getElem? (i := 1204) (by decide +kernel), List.mem_of_getElem? (i := 1521) (by decide +kernel), List.mem_of_getElem? (i := 1522) (by decide +kernel)⟩
theorem lw_p52 : lw_okq (⟨"SilkMillModel", "condition", "(I)Z"⟩, 66) := ⟨⟨by decide +kernel, by decide +kernel⟩, List.mem_of_getElem? (i := 1204) (by decide +kernel), List.mem_of_getElem? (i := 1525) (by decide +kernel), List.mem_of_getElem? (i := 1526) (by decide +kernel)⟩
theorem lw_p53 : lw_okq (⟨"SilkMillModel", "number", "()I"⟩, 66) := ⟨⟨by decide +kernel, by decide +kernel⟩, List.mem_of_getElem? (i := 1204) (by decide +kernel), List.mem_of_getElem? (i := 1533) (by decide +kernel), List.mem_of_getElem? (i := 1534) (by decide +kernel)⟩
theorem lw_p54 : lw_okq (⟨"SilkMillModel", "must", "(Ljava/lang/String;)Z"⟩, 66) := ⟨⟨by decide +kernel, by decide +kernel⟩, List.mem_of_getElem? (i := 1204) (by decide +kernel), List.mem_of_getElem? (i := 1539) (by decide +kernel), List.mem_of_getElem? (i := 1540) (by decide +kernel)⟩
theorem lw_p55 : lw_okq (⟨"SilkMillModel", "cuts", "(I)I"⟩, 66) := ⟨⟨by decide +kernel, by decide +kernel⟩, List.mem_of_getElem? (i := 1204) (by decide +kernel), List.mem_of_getElem? (i := 1552) (by decide +kernel), List.mem_of_getElem? (i := 1553) (by decide +kernel)⟩
theorem lw_p56 : lw_okq (⟨"SilkMillModel", "growing", "(I)I"⟩, 66) := ⟨⟨by decide +kernel, by decide +kernel⟩, List.mem_of_getElem? (i := 1204) (by decide +kernel), List.mem_of_getElem? (i := 1556) (by decide +kernel), List.mem_of_getElem? (i := 1557) (by decide +kernel)⟩
theorem lw_p57 : lw_okq (⟨"SilkMillModel", "weight", "(II)I"⟩, 66) := ⟨⟨by decide +kernel, by decide +kernel⟩, List.mem_of_getElem? (i := 1204) (by decide +kernel), List.mem_of_getElem? (i := 1560) (by decide +kernel), List.mem_of_getElem? (i := 1561) (by decide +kernel)⟩
theorem lw_p58 : lw_okq (⟨"SilkMillModel", "fineAt", "(I)I"⟩, 66) := ⟨⟨by decide +kernel, by decide +kernel⟩, List.mem_of_getElem? (i := 1204) (by decide +kernel), List.mem_of_getElem? (i := 1564) (by decide +kernel), List.mem_of_getElem? (i := 1565) (by decide +kernel)⟩
theorem lw_p59 : lw_okq (⟨"SilkMillModel", "tick", "(I)Z"⟩, 66) := ⟨⟨by decide +kernel, by decide +kernel⟩, List.mem_of_getElem? (i := 1204) (by decide +kernel), List.mem_of_getElem? (i := 1572) (by decide +kernel), List.mem_of_getElem? (i := 1573) (by decide +kernel)⟩
theorem lw_p60 : lw_okq (⟨"SilkMillModel", "goes", "(III)I"⟩, 66) := ⟨⟨by decide +kernel, by decide +kernel⟩, List.mem_of_getElem? (i := 1204) (by decide +kernel), List.mem_of_getElem? (i := 1576) (by decide +kernel), List.mem_of_getElem? (i := 1577) (by decide +kernel)⟩
theorem lw_p61 : lw_okq (⟨"SilkMillModel", "holds", "(II)Z"⟩, 66) := ⟨⟨by decide +kernel, by decide +kernel⟩, List.mem_of_getElem? (i := 1204) (by decide +kernel), List.mem_of_getElem? (i := 1580) (by decide +kernel), List.mem_of_getElem? (i := 1581) (by decide +kernel)⟩
theorem lw_p62 : lw_okq (⟨"SilkMillModel", "fieldOf", "(II)I"⟩, 66) := ⟨⟨by decide +kernel, by decide +kernel⟩, List.mem_of_getElem? (i := 1204) (by decide +kernel), List.mem_of_getElem? (i := 1584) (by decide +kernel), List.mem_of_getElem? (i := 1585) (by decide +kernel)⟩
theorem lw_p63 : lw_okq (⟨"SilkMillModel", "nowFine", "(I)I"⟩, 66) := ⟨⟨by decide +kernel, by decide +kernel⟩, List.mem_of_getElem? (i := 1204) (by decide +kernel), List.mem_of_getElem? (i := 1588) (by decide +kernel), List.mem_of_getElem? (i := 1589) (by decide +kernel)⟩
def lw_privs_4 : List (MethodName × Nat) := [(⟨"SilkMillModel", "rule", "()Z"⟩, 66), (⟨"SilkMillModel", "is", "(Ljava/lang/String;)Z"⟩, 66), (⟨"SilkMillModel", "which", "(Ljava/lang/String;)I"⟩, 66), (⟨"SilkMillModel", "wrong", "(I)Z"⟩, 66), (⟨"SilkMillModel", "condition", "(I)Z"⟩, 66), (⟨"SilkMillModel", "number", "()I"⟩, 66), (⟨"SilkMillModel", "must", "(Ljava/lang/String;)Z"⟩, 66), (⟨"SilkMillModel", "cuts", "(I)I"⟩, 66), (⟨"SilkMillModel", "growing", "(I)I"⟩, 66), (⟨"SilkMillModel", "weight", "(II)I"⟩, 66), (⟨"SilkMillModel", "fineAt", "(I)I"⟩, 66), (⟨"SilkMillModel", "tick", "(I)Z"⟩, 66), (⟨"SilkMillModel", "goes", "(III)I"⟩, 66), (⟨"SilkMillModel", "holds", "(II)Z"⟩, 66), (⟨"SilkMillModel", "fieldOf", "(II)I"⟩, 66), (⟨"SilkMillModel", "nowFine", "(I)I"⟩, 66)]
theorem lw_r4 : ∀ q ∈ lw_privs_4, lw_okq q := List.forall_mem_cons.mpr ⟨lw_p48, List.forall_mem_cons.mpr ⟨lw_p49, List.forall_mem_cons.mpr ⟨lw_p50, List.forall_mem_cons.mpr ⟨lw_p51, List.forall_mem_cons.mpr ⟨lw_p52, List.forall_mem_cons.mpr ⟨lw_p53, List.forall_mem_cons.mpr ⟨lw_p54, List.forall_mem_cons.mpr ⟨lw_p55, List.forall_mem_cons.mpr ⟨lw_p56, List.forall_mem_cons.mpr ⟨lw_p57, List.forall_mem_cons.mpr ⟨lw_p58, List.forall_mem_cons.mpr ⟨lw_p59, List.forall_mem_cons.mpr ⟨lw_p60, List.forall_mem_cons.mpr ⟨lw_p61, List.forall_mem_cons.mpr ⟨lw_p62, List.forall_mem_cons.mpr ⟨lw_p63, fun _ h => absurd h List.not_mem_nil⟩⟩⟩⟩⟩⟩⟩⟩⟩⟩⟩⟩⟩⟩⟩⟩
theorem lw_p64 : lw_okq (⟨"SilkMillModel", "at", "(III)I"⟩, 66) := ⟨⟨by decide +kernel, by decide +kernel⟩, List.mem_of_getElem? (i := 1204) (by decide +kernel), List.mem_of_getElem? (i := 1592) (by decide +kernel), List.mem_of_getElem? (i := 1593) (by decide +kernel)⟩
theorem lw_p65 : lw_okq (⟨"SilkMillModel", "thinnest", "(I)I"⟩, 66) := ⟨⟨by decide +kernel, by decide +kernel⟩, List.mem_of_getElem? (i := 1204) (by decide +kernel), List.mem_of_getElem? (i := 1596) (by decide +kernel), List.mem_of_getElem? (i := 1597) (by decide +kernel)⟩
theorem lw_p66 : lw_okq (⟨"SilkMillModel", "acts", "(II)V"⟩, 66) := ⟨⟨by decide +kernel, by decide +kernel⟩, List.mem_of_getElem? (i := 1204) (by decide +kernel), List.mem_of_getElem? (i := 1600) (by decide +kernel), List.mem_of_getElem? (i := 1601) (by decide +kernel)⟩
theorem lw_p67 : lw_okq (⟨"SilkMillModel", "isSkein", "(I)Z"⟩, 66) := ⟨⟨by decide +kernel, by decide +kernel⟩, List.mem_of_getElem? (i := 1204) (by decide +kernel), List.mem_of_getElem? (i := 1616) (by decide +kernel), List.mem_of_getElem? (i := 1617) (by decide +kernel)⟩
theorem lw_p68 : lw_okq (⟨"SilkMillModel", "metres", "(I)I"⟩, 66) := ⟨⟨by decide +kernel, by decide +kernel⟩, List.mem_of_getElem? (i := 1204) (by decide +kernel), List.mem_of_getElem? (i := 1620) (by decide +kernel), List.mem_of_getElem? (i := 1621) (by decide +kernel)⟩
theorem lw_p69 : lw_okq (⟨"SilkMillModel", "weightOf", "(I)I"⟩, 66) := ⟨⟨by decide +kernel, by decide +kernel⟩, List.mem_of_getElem? (i := 1204) (by decide +kernel), List.mem_of_getElem? (i := 1624) (by decide +kernel), List.mem_of_getElem? (i := 1625) (by decide +kernel)⟩
theorem lw_p70 : lw_okq (⟨"SilkMillModel", "least", "(IZ)I"⟩, 66) := ⟨⟨by decide +kernel, by decide +kernel⟩, List.mem_of_getElem? (i := 1204) (by decide +kernel), List.mem_of_getElem? (i := 1628) (by decide +kernel), List.mem_of_getElem? (i := 1629) (by decide +kernel)⟩
theorem lw_p71 : lw_okq (⟨"SilkMillModel", "slips", "(I)I"⟩, 66) := ⟨⟨by decide +kernel, by decide +kernel⟩, List.mem_of_getElem? (i := 1204) (by decide +kernel), List.mem_of_getElem? (i := 1634) (by decide +kernel), List.mem_of_getElem? (i := 1635) (by decide +kernel)⟩
theorem lw_p72 : lw_okq (⟨"SilkMillModel", "pieces", "(I)I"⟩, 66) := ⟨⟨by decide +kernel, by decide +kernel⟩, List.mem_of_getElem? (i := 1204) (by decide +kernel), List.mem_of_getElem? (i := 1639) (by decide +kernel), List.mem_of_getElem? (i := 1640) (by decide +kernel)⟩
theorem lw_p73 : lw_okq (⟨"SilkMillModel", "begins", "(III)Z"⟩, 66) := ⟨⟨by decide +kernel, by decide +kernel⟩, List.mem_of_getElem? (i := 1204) (by decide +kernel), List.mem_of_getElem? (i := 1643) (by decide +kernel), List.mem_of_getElem? (i := 1644) (by decide +kernel)⟩
theorem lw_p74 : lw_okq (⟨"SilkMillModel", "endOf", "(II)I"⟩, 66) := ⟨⟨by decide +kernel, by decide +kernel⟩, List.mem_of_getElem? (i := 1204) (by decide +kernel), List.mem_of_getElem? (i := 1647) (by decide +kernel), List.mem_of_getElem? (i := 1648) (by decide +kernel)⟩
theorem lw_p75 : lw_okq (⟨"SilkMillModel", "gradeOf", "(I)I"⟩, 66) := ⟨⟨by decide +kernel, by decide +kernel⟩, List.mem_of_getElem? (i := 1204) (by decide +kernel), List.mem_of_getElem? (i := 1651) (by decide +kernel), List.mem_of_getElem? (i := 1652) (by decide +kernel)⟩
theorem lw_p76 : lw_okq (⟨"SilkMillModel", "priceOf", "(I)I"⟩, 66) := ⟨⟨by decide +kernel, by decide +kernel⟩, List.mem_of_getElem? (i := 1204) (by decide +kernel), List.mem_of_getElem? (i := 1655) (by decide +kernel), List.mem_of_getElem? (i := 1656) (by decide +kernel)⟩
theorem lw_p77 : lw_okq (⟨"SilkMillModel", "told", "(IIII)I"⟩, 66) := ⟨⟨by decide +kernel, by decide +kernel⟩, List.mem_of_getElem? (i := 1204) (by decide +kernel), List.mem_of_getElem? (i := 1667) (by decide +kernel), List.mem_of_getElem? (i := 1668) (by decide +kernel)⟩
theorem lw_p78 : lw_okq (⟨"SilkMillModel", "isDrawn", "(II)Z"⟩, 66) := ⟨⟨by decide +kernel, by decide +kernel⟩, List.mem_of_getElem? (i := 1204) (by decide +kernel), List.mem_of_getElem? (i := 1675) (by decide +kernel), List.mem_of_getElem? (i := 1676) (by decide +kernel)⟩
theorem lw_p79 : lw_okq (⟨"SilkMillModel", "isWord", "(I)Z"⟩, 66) := ⟨⟨by decide +kernel, by decide +kernel⟩, List.mem_of_getElem? (i := 1204) (by decide +kernel), List.mem_of_getElem? (i := 1699) (by decide +kernel), List.mem_of_getElem? (i := 1700) (by decide +kernel)⟩
def lw_privs_5 : List (MethodName × Nat) := [(⟨"SilkMillModel", "at", "(III)I"⟩, 66), (⟨"SilkMillModel", "thinnest", "(I)I"⟩, 66), (⟨"SilkMillModel", "acts", "(II)V"⟩, 66), (⟨"SilkMillModel", "isSkein", "(I)Z"⟩, 66), (⟨"SilkMillModel", "metres", "(I)I"⟩, 66), (⟨"SilkMillModel", "weightOf", "(I)I"⟩, 66), (⟨"SilkMillModel", "least", "(IZ)I"⟩, 66), (⟨"SilkMillModel", "slips", "(I)I"⟩, 66), (⟨"SilkMillModel", "pieces", "(I)I"⟩, 66), (⟨"SilkMillModel", "begins", "(III)Z"⟩, 66), (⟨"SilkMillModel", "endOf", "(II)I"⟩, 66), (⟨"SilkMillModel", "gradeOf", "(I)I"⟩, 66), (⟨"SilkMillModel", "priceOf", "(I)I"⟩, 66), (⟨"SilkMillModel", "told", "(IIII)I"⟩, 66), (⟨"SilkMillModel", "isDrawn", "(II)Z"⟩, 66), (⟨"SilkMillModel", "isWord", "(I)Z"⟩, 66)]
theorem lw_r5 : ∀ q ∈ lw_privs_5, lw_okq q := List.forall_mem_cons.mpr ⟨lw_p64, List.forall_mem_cons.mpr ⟨lw_p65, List.forall_mem_cons.mpr ⟨lw_p66, List.forall_mem_cons.mpr ⟨lw_p67, List.forall_mem_cons.mpr ⟨lw_p68, List.forall_mem_cons.mpr ⟨lw_p69, List.forall_mem_cons.mpr ⟨lw_p70, List.forall_mem_cons.mpr ⟨lw_p71, List.forall_mem_cons.mpr ⟨lw_p72, List.forall_mem_cons.mpr ⟨lw_p73, List.forall_mem_cons.mpr ⟨lw_p74, List.forall_mem_cons.mpr ⟨lw_p75, List.forall_mem_cons.mpr ⟨lw_p76, List.forall_mem_cons.mpr ⟨lw_p77, List.forall_mem_cons.mpr ⟨lw_p78, List.forall_mem_cons.mpr ⟨lw_p79, fun _ h => absurd h List.not_mem_nil⟩⟩⟩⟩⟩⟩⟩⟩⟩⟩⟩⟩⟩⟩⟩⟩
def lw_privs : List (MethodName × Nat) := lw_privs_1 ++ (lw_privs_2 ++ (lw_privs_3 ++ (lw_privs_4 ++ (lw_privs_5))))
def lw_tbl : List Cond := k2_sels lw_privs ++ tables_1
theorem lw_privs_ok : ∀ q ∈ lw_privs, lw_okq q := by
  show ∀ q ∈ lw_privs_1 ++ (lw_privs_2 ++ (lw_privs_3 ++ (lw_privs_4 ++ (lw_privs_5)))), lw_okq q
  exact List.forall_mem_append.mpr ⟨lw_r1, List.forall_mem_append.mpr ⟨lw_r2, List.forall_mem_append.mpr ⟨lw_r3, List.forall_mem_append.mpr ⟨lw_r4, lw_r5⟩⟩⟩⟩
end
section
/-! ===== BEGIN words of one list among another's, by their places ===== -/
theorem goodIn_r {big : List Cond} (ws : List Cond) (ps : List Nat) (hp : ws = ps.filterMap (fun i => big[i]?)) (h : ws.all goodWord = true) : GoodIn big ws := by
  intro w hw
  have h1 := List.all_eq_true.mp h w hw
  rw [hp] at hw
  obtain ⟨i, -, hi⟩ := List.mem_filterMap.mp hw
  have hm : w ∈ big := by first | exact List.mem_of_getElem? hi | exact List.getElem?_mem hi
  exact ⟨hm, good_of_word h1⟩
theorem goodIn_app {big a b : List Cond} (ha : GoodIn big a) (hb : GoodIn big b) : GoodIn big (a ++ b) := fun w h => (List.mem_append.mp h).elim (ha w) (hb w)
theorem goodIn_ca {big a b : List Cond} {c : Cond} (ha : GoodIn big (c :: a)) (hb : GoodIn big b) : GoodIn big (c :: (a ++ b)) := fun w h => (List.mem_cons.mp h).elim (fun e => ha w (List.mem_cons.mpr (Or.inl e))) (fun h => (List.mem_append.mp h).elim (fun h => ha w (List.mem_cons.mpr (Or.inr h))) (hb w))
theorem goodIn_sub {big ws : List Cond} (hm : ∀ w ∈ ws, w ∈ big) (h : ws.all goodWord = true) : GoodIn big ws := fun w hw => ⟨hm w hw, good_of_word (List.all_eq_true.mp h w hw)⟩
/-! ===== END ===== -/
/-! ===== BEGIN exceptions that leave a method, and their catching by the caller (launches without stack traces) ===== -/
section VXA
/-! The laws vx_back, vx_callV, vx_callS, vx_callSW, vx_throw0, vx_throwS follow proofs of the library, with one case more: JvmDerived/Free/Laws.lean (Back.of_free), Shelf42/LK1.lean (callV, callS), Shelf/KitTraced.lean (throwNew0V, throwNewS). -/
/-- where a method has thrown q: the class by its name, the cell, what was written, the world -/
def vx_T (XC : String → State → State → Prop) (st : State) (q : Addr) (t : State) (mc ms : Nat) (free : Addr → Prop) : Prop :=
  ∃ (E : String) (ce : Cell) (L : List Loc), XC E st t ∧ t.heap[q]? = some ce ∧ ce.vm = .none ∧ st.vm.findClass E = some ce.cls ∧ st.WarmedH t.vm ∧ st.sameButNew ({ t with vm := st.vm } : State) L mc ms ∧ ∀ z ∈ L, free z.base
def vx_Q (Qc : Array Value → State → Outcome → State → Prop) (XC : String → State → State → Prop) (mc ms : Nat) (free : Addr → Prop) : Array Value → State → Outcome → State → Prop := fun a st o t =>
  (Qc a st o t ∧ ∃ L, FrameEnd st o t L mc ms ∧ ∀ q ∈ L, free q.base) ∨ ∃ q, o = .threw q ∧ vx_T XC st q t mc ms free
/-- a callee that returns or throws -/
def vx_Met (l : Launch) (y : MethodName) (ws : List Cond) (rm : Room) (Pc : Array Value → State → Prop) (Qc : Array Value → State → Outcome → State → Prop) (XC : String → State → State → Prop) (mc ms : Nat) (free : Addr → Prop) : Prop :=
  MetFree l y (headSpec ws rm) Pc (fun _ _ _ _ _ => True) (vx_Q Qc XC mc ms free)
def vx_Post (XC : String → State → State → Prop) (mc ms : Nat) (free : Addr → Prop) : Pt → Array Value → Addr → Pt → Prop := fun A a q B =>
  ∃ (g : JFrame) (mk : MethodId) (t : State) (L : List Loc) (E : String) (ce : Cell), B.U.heap = t.heap ∧ B.U.vm = t.vm ∧ XC E (A.U.calling g mk a) t ∧ t.heap[q]? = some ce ∧ ce.vm = .none ∧ A.U.vm.findClass E = some ce.cls ∧ B.locs = A.locs ++ L ∧ (∀ z ∈ L, free z.base) ∧ B.cells = A.cells + mc ∧ B.slots = A.slots + ms
def vx_Back (l : Launch) (R : Room) (p : Program) (e : Env) (below : List Frame) (s : State) (sargs : Array Value) (y : MethodName) (len W9 : Nat)
    (Pre : Pt → Array Value → Prop) (Post : Pt → Array Value → Option Value → Pt → Prop) (PostX : Pt → Array Value → Addr → Pt → Prop) : Prop :=
  ∀ (m : MethodId) (meth : Method) (c : Code) (A : Pt) (g : JFrame) (ig : Instr) (mk : MethodId) (a : Array Value),
    Stand p l e R s m sargs below meth c A.U A.locs A.cells A.slots → g.method = m → g.locals.size = c.maxLocals → decode c.code g.pc = .ok (ig, len) →
    2 * g.monitorRoom + (g.stack.map fun v => v.category).sum ≤ W9 → A.U.methodNamed? y = some mk → Pre A a →
    (∃ (v : Option Value) (B : Pt), Stand p l e R s m sargs below meth c B.U B.locs B.cells B.slots ∧ Post A a v B ∧
      Steps p.tables e below (doInvoke e (A.U.setTop g) [] mk a).1 (B.U.setTop { g with pc := g.pc + len, stack := v.toList ++ g.stack })) ∨
    (∃ (q : Addr) (B : Pt), Stand p l e R s m sargs below meth c B.U B.locs B.cells B.slots ∧ PostX A a q B ∧
      Steps p.tables e below (doInvoke e (A.U.setTop g) [] mk a).1 ((B.U.setTop g).pushFrame (.throwing q)))
section Payer
variable {l : Launch} {R : Room} {p : Program} {e : Env} {below : List Frame} {s : State} {sargs : Array Value} {y : MethodName} {len W9 : Nat}
theorem vx_back {ws : List Cond} {rm : Room} {Pc : Array Value → State → Prop} {Qc : Array Value → State → Outcome → State → Prop} {XC : String → State → State → Prop} {mc ms : Nat} {free : Addr → Prop} {bytes : ByteArray} {maxL : Nat} {ret : Option FieldType}
    (hM : vx_Met l y ws rm Pc Qc XC mc ms free) (hblind : FrameBlind Pc) (hrc : rm.cells = mc) (hrs : rm.slots = ms)
    (hframes : rm.frames + 1 ≤ R.frames) (hlocals : W9 + (maxL + 11) + rm.locals ≤ R.locals)
    (hws : ∀ w ∈ ws, ∀ a' U, s.WarmedH U.vm → w.before a' U = true) (hcode : Cond.code y bytes maxL ret ∈ ws) (hinit : ∀ a' U, s.WarmedH U.vm → (Cond.initialized y.cls).before a' U = true) :
    vx_Back l R p e below s sargs y len W9 (PreOf R mc ms Pc) (PostOf Qc mc ms free) (vx_Post XC mc ms free) := by
  intro m meth c A g ig mk a X hg hsize hdg hW hn hp
  have h1 : (headSpec ws rm).pre.before a A.U = true := atoms_intro fun w hw => hws w hw _ _ X.warmed
  have h2 : (Cond.code y bytes maxL ret).before a A.U = true := hws _ hcode _ _ X.warmed
  have h3 : (Cond.initialized y.cls).before a A.U = true := hinit _ _ X.warmed
  have h4 : A.cells + (headSpec ws rm).room.cells ≤ R.cells := by rw [show (headSpec ws rm).room.cells = mc from hrc]; exact hp.1
  have h5 : A.slots + (headSpec ws rm).room.slots ≤ R.slots := by rw [show (headSpec ws rm).room.slots = ms from hrs]; exact hp.2.1
  have hPc : Pc a (A.U.calling g mk a) := hblind _ _ _ _ hp.2.2
  obtain ⟨U, Ls, c0, s0⟩ := A
  dsimp only [Pt.U, Pt.locs, Pt.cells, Pt.slots] at h1 h2 h3 h4 h5 X hn hPc ⊢
  obtain ⟨methY, cY, hmY, hcY, -, hlY, -, -, -, -⟩ := Cond.code_spec hn h2
  obtain ⟨kY, hkY, -⟩ := className_of_methodNamed hn
  have hinitY : kY.init = .initialized := Cond.initialized_spec (findClass_of_methodNamed hn) hkY h3
  have h : At U g.method c below := by rw [hg]; exact X.here
  have hlocals9 : W9 + (maxL + 11) + (headSpec ws rm).room.locals ≤ R.locals := hlocals
  have happ : (headSpec ws rm).appliesLoose y e.platform (U.calling g mk a) = true :=
    Spec.appliesLoose_calling (g := g) h hdg hn hkY hinitY
      (X.room_calling (g := g) (R' := (headSpec ws rm).room) hsize hmY hcY hframes (by rw [hlY]; omega) h4 h5) h1
  obtain ⟨mid, hmid⟩ := h.above
  have hfr : (U.setTop g).frames = (.java g :: mid) ++ below := by rw [State.frames_setTop' g h.top, hmid]; rfl
  obtain ⟨o, s₂, hsteps, -, hend, hq⟩ := Steps.callFree hM p X.admits X.cas X.clock (acts := []) hfr happ hPc trivial
  have hq' : vx_Q Qc XC mc ms free a (U.calling g mk a) o s₂ := hq
  rw [State.frames_setTop' g h.top] at hend
  obtain ⟨g₀, hg0⟩ := Option.isSome_iff_exists.mp h.top
  obtain ⟨r, hr⟩ := State.topJava?_eq_some.mp hg0
  have hr' : (({ U with heap := s₂.heap, slotsUsed := s₂.slotsUsed } : State).setVm s₂.vm).frames = .java g₀ :: r := hr
  rcases hq' with ⟨hqc, L, hfe, hL⟩ | ⟨q, rfl, E, ce, L, hx, hce, hcv, hcl, hW₂, hsm, hL⟩
  · obtain ⟨⟨v, rfl⟩, hW₂, e2, q2, q3, q4, q5, q6⟩ := id hfe
    have e3 : s₂ = ({ (U.calling g mk a).setFrames s₂.frames with heap := s₂.heap, slotsUsed := s₂.slotsUsed } : State).setVm s₂.vm := by
      have : s₂ = ({ s₂ with vm := (U.calling g mk a).vm } : State).setVm s₂.vm := rfl
      rw [e2] at this
      exact this
    obtain ⟨c₂, i₂, len₂, hc₂, hd₂, hf₂⟩ := hend
    have hW' : U.WarmedH s₂.vm := hW₂
    have hcc : c₂ = c := by
      have h1 : s₂.code? g.method = U.code? g.method := by
        rw [State.code?_eq, State.code?_eq, hW'.alike.method?]
      exact Option.some.inj (hc₂.symm.trans (h1.trans h.code))
    subst hcc
    have hlen : len₂ = len := by rw [hdg] at hd₂; cases hd₂; rfl
    subst hlen
    have hs₂ : s₂ = (({ U with heap := s₂.heap, slotsUsed := s₂.slotsUsed } : State).setVm s₂.vm).setTop { g with pc := g.pc + len₂, stack := v.toList ++ g.stack } := by
      refine e3.trans ?_
      rw [hf₂, State.calling_eq h.top, State.setFrames_setFrames, State.setTop_of_frames _ hr', hr]
      rfl
    have hsame : U.sameButNew ({ U with heap := s₂.heap, slotsUsed := s₂.slotsUsed } : State) L mc ms := by
      refine ⟨?_, q2, q3, q4, q5, q6⟩
      obtain ⟨t, ht, -⟩ := State.frames_cons hr
      show ({ U with heap := s₂.heap, slotsUsed := s₂.slotsUsed } : State) = { U.setFrames U.frames with heap := s₂.heap, slotsUsed := s₂.slotsUsed }
      rw [State.setFrames_self ht]
    subst hg
    refine Or.inl ⟨v, ⟨(({ U with heap := s₂.heap, slotsUsed := s₂.slotsUsed } : State).setVm s₂.vm), Ls ++ L, c0 + mc, s0 + ms⟩,
      ⟨X.admits, X.cas, X.clock, X.frames, X.room, X.hears, X.method, X.code, (X.here.setHeapUsed s₂.heap s₂.slotsUsed).setVm hW'.alike, X.tail, State.WarmedH.trans X.warmed hW', X.limits, X.bytes, X.same.trans (hsame.setVm s.vm)⟩,
      ⟨g, mk, s₂, L, rfl, rfl, hqc, rfl, hL, rfl, rfl⟩, ?_⟩
    show Steps p.tables e below _ ((({ U with heap := s₂.heap, slotsUsed := s₂.slotsUsed } : State).setVm s₂.vm).setTop { g with pc := g.pc + len₂, stack := v.toList ++ g.stack })
    rw [← hs₂]
    exact hsteps
  · obtain ⟨e2, q2, q3, q4, q5, q6⟩ := id hsm
    have e3 : s₂ = ({ (U.calling g mk a).setFrames s₂.frames with heap := s₂.heap, slotsUsed := s₂.slotsUsed } : State).setVm s₂.vm := by
      have : s₂ = ({ s₂ with vm := (U.calling g mk a).vm } : State).setVm s₂.vm := rfl
      rw [e2] at this
      exact this
    have hf₂ : s₂.frames = .throwing q :: .java g :: U.frames.tail := hend
    have hW' : U.WarmedH s₂.vm := hW₂
    have hs₂ : s₂ = ((({ U with heap := s₂.heap, slotsUsed := s₂.slotsUsed } : State).setVm s₂.vm).setTop g).pushFrame (.throwing q) := by
      refine e3.trans ?_
      rw [hf₂, State.calling_eq h.top, State.setFrames_setFrames, State.pushFrame, State.frames_setTop _ hr', State.setTop_of_frames _ hr', State.setFrames_setFrames, hr]
      rfl
    have hsame : U.sameButNew ({ U with heap := s₂.heap, slotsUsed := s₂.slotsUsed } : State) L mc ms := by
      refine ⟨?_, q2, q3, q4, q5, q6⟩
      obtain ⟨t, ht, -⟩ := State.frames_cons hr
      show ({ U with heap := s₂.heap, slotsUsed := s₂.slotsUsed } : State) = { U.setFrames U.frames with heap := s₂.heap, slotsUsed := s₂.slotsUsed }
      rw [State.setFrames_self ht]
    subst hg
    refine Or.inr ⟨q, ⟨(({ U with heap := s₂.heap, slotsUsed := s₂.slotsUsed } : State).setVm s₂.vm), Ls ++ L, c0 + mc, s0 + ms⟩,
      ⟨X.admits, X.cas, X.clock, X.frames, X.room, X.hears, X.method, X.code, (X.here.setHeapUsed s₂.heap s₂.slotsUsed).setVm hW'.alike, X.tail, State.WarmedH.trans X.warmed hW', X.limits, X.bytes, X.same.trans (hsame.setVm s.vm)⟩,
      ⟨g, mk, s₂, L, E, ce, rfl, rfl, hx, hce, hcv, hcl, rfl, hL, rfl, rfl⟩, ?_⟩
    show Steps p.tables e below _ (((({ U with heap := s₂.heap, slotsUsed := s₂.slotsUsed } : State).setVm s₂.vm).setTop g).pushFrame (.throwing q))
    rw [← hs₂]
    exact hsteps
end Payer
section Calls
variable {p : Program} {l : Launch} {e : Env} {R : Room} {s : State} {m : MethodId} {args : Array Value} {below : List Frame} {meth : Method} {c : Code} {T : State} {locs : List Loc} {cells slots : Nat}
theorem vx_callV (X : Stand p l e R s m args below meth c T locs cells slots) (hexec : p.tables.exec = Jvm.exec) {own C : String} {index : Nat} {y : MethodName} {bytes : ByteArray} {maxL : Nat} {ret : Option FieldType}
    (hown : s.vm.findClass own = some m.cls) (hlink : (Cond.methodLink own index y).before args s = true) (hinst : (Cond.instanceMethod y).before args s = true) (hsel : (Cond.selects C y y).before args s = true)
    (hcode : (Cond.code y bytes maxL ret).before args s = true) (hy : y.cls ≠ "java/lang/invoke/MethodHandle" ∧ y.cls ≠ "java/lang/invoke/VarHandle")
    {W9 : Nat} {Pre : Pt → Array Value → Prop} {Post : Pt → Array Value → Option Value → Pt → Prop} {PostX : Pt → Array Value → Addr → Pt → Prop} (hK : vx_Back l R p e below s args y 3 W9 Pre Post PostX)
    {b : Addr} {cellB : Cell} (hcell : T.heap[b]? = some cellB) (hobj : cellB.vm.isStatics = false) (hcls : s.vm.findClass C = some cellB.cls)
    {g : JFrame} (hg : g.method = m) (hsize : g.locals.size = c.maxLocals) {argsL rest : List Value} (hlen : ∀ sig, parseMethodDescriptor y.desc = some sig → argsL.length = sig.parameters.length)
    (hstack : g.stack = argsL.reverse ++ .ref b :: rest) (hW : 2 * g.monitorRoom + (rest.map fun v => v.category).sum ≤ W9) (hdg : decode c.code g.pc = .ok (.invokevirtual index, 3))
    (hpre : ∀ vm₁, s.WarmedH vm₁ → Pre ⟨T.setVm vm₁, locs, cells, slots⟩ (Value.ref b :: argsL).toArray) :
    (∃ (v : Option Value) (vm₁ : Vm) (B : Pt), s.WarmedH vm₁ ∧ Stand p l e R s m args below meth c B.U B.locs B.cells B.slots ∧ Post ⟨T.setVm vm₁, locs, cells, slots⟩ (Value.ref b :: argsL).toArray v B ∧
      ∀ target, Steps p.tables e below (B.U.setTop { g with pc := g.pc + 3, stack := v.toList ++ rest }) target → Steps p.tables e below (T.setTop g) target) ∨
    (∃ (q : Addr) (vm₁ : Vm) (B : Pt), s.WarmedH vm₁ ∧ Stand p l e R s m args below meth c B.U B.locs B.cells B.slots ∧ PostX ⟨T.setVm vm₁, locs, cells, slots⟩ (Value.ref b :: argsL).toArray q B ∧
      Steps p.tables e below (T.setTop g) ((B.U.setTop { g with stack := rest }).pushFrame (.throwing q))) := by
  obtain ⟨mk, methM, hnamed, hmethM, hstM, habM⟩ := Cond.instanceMethod_spec hinst
  obtain ⟨methM', cM, hmethM', -, -, -, -, -, -, hsigM⟩ := Cond.code_spec hnamed hcode
  cases hmethM.symm.trans hmethM'
  obtain ⟨c2, r2, m2, q1, q2, q3, q4, kP, hkP, hkPi⟩ := Cond.selects_spec hsel
  cases hcls.symm.trans q1
  cases (State.methodFound?_of_named hnamed hy).symm.trans q2
  cases hnamed.symm.trans q3
  have hselP : selectMethod e.platform s.vm cellB.cls mk = .method mk := by rw [Launch.admits_selectMethod X.admits]; exact q4
  obtain ⟨vm₁, X₁, hstep₁⟩ := X.invokevirtual hexec hown hlink hnamed hmethM hstM hkP hkPi hy (a := b) (cell := cellB) hcell
    (fun z h => by rw [h] at hobj; cases hobj) hselP hmethM habM hkP hkPi (g := g) hg (argsL := argsL) (rest := rest) (hlen _ hsigM) hstack hdg
  rcases hK m meth c ⟨T.setVm vm₁, locs, cells, slots⟩ { g with stack := rest } (.invokevirtual index) mk (Value.ref b :: argsL).toArray X₁ hg hsize hdg hW (X₁.named hnamed) (hpre vm₁ X₁.warmed) with ⟨v, B, X', hpost, hsteps⟩ | ⟨q, B, X', hpost, hsteps⟩
  · exact Or.inl ⟨v, vm₁, B, X₁.warmed, X', hpost, fun target h => hstep₁ _ fun acts => by rw [doInvoke_state]; exact hsteps.trans h⟩
  · exact Or.inr ⟨q, vm₁, B, X₁.warmed, X', hpost, hstep₁ _ fun acts => by rw [doInvoke_state]; exact hsteps⟩
theorem vx_callS (X : Stand p l e R s m args below meth c T locs cells slots) (hexec : p.tables.exec = Jvm.exec) {own : String} {index : Nat} {y : MethodName} {bytes : ByteArray} {maxL : Nat} {ret : Option FieldType}
    (hown : s.vm.findClass own = some m.cls) (hlink : (Cond.methodLink own index y).before args s = true) (hstat : (Cond.static y).before args s = true) (hinit : (Cond.initialized y.cls).before args s = true)
    (hcode : (Cond.code y bytes maxL ret).before args s = true) (hy : y.cls ≠ "java/lang/invoke/MethodHandle" ∧ y.cls ≠ "java/lang/invoke/VarHandle")
    {W9 : Nat} {Pre : Pt → Array Value → Prop} {Post : Pt → Array Value → Option Value → Pt → Prop} {PostX : Pt → Array Value → Addr → Pt → Prop} (hK : vx_Back l R p e below s args y 3 W9 Pre Post PostX)
    {g : JFrame} (hg : g.method = m) (hsize : g.locals.size = c.maxLocals) {argsL rest : List Value} (hlen : ∀ sig, parseMethodDescriptor y.desc = some sig → argsL.length = sig.parameters.length)
    (hstack : g.stack = argsL.reverse ++ rest) (hW : 2 * g.monitorRoom + (rest.map fun v => v.category).sum ≤ W9) (hdg : decode c.code g.pc = .ok (.invokestatic index, 3))
    (hpre : ∀ vm₁, s.WarmedH vm₁ → Pre ⟨T.setVm vm₁, locs, cells, slots⟩ argsL.toArray) :
    (∃ (v : Option Value) (vm₁ : Vm) (B : Pt), s.WarmedH vm₁ ∧ Stand p l e R s m args below meth c B.U B.locs B.cells B.slots ∧ Post ⟨T.setVm vm₁, locs, cells, slots⟩ argsL.toArray v B ∧
      ∀ target, Steps p.tables e below (B.U.setTop { g with pc := g.pc + 3, stack := v.toList ++ rest }) target → Steps p.tables e below (T.setTop g) target) ∨
    (∃ (q : Addr) (vm₁ : Vm) (B : Pt), s.WarmedH vm₁ ∧ Stand p l e R s m args below meth c B.U B.locs B.cells B.slots ∧ PostX ⟨T.setVm vm₁, locs, cells, slots⟩ argsL.toArray q B ∧
      Steps p.tables e below (T.setTop g) ((B.U.setTop { g with stack := rest }).pushFrame (.throwing q))) := by
  obtain ⟨mk, hnamed⟩ := Cond.code_named hcode
  obtain ⟨methM, cM, hmethM, -, -, -, -, -, -, hsigM⟩ := Cond.code_spec hnamed hcode
  have hstatic : methM.isStatic = true := Cond.static_spec hnamed hmethM hstat
  obtain ⟨kP, hkP, -⟩ := className_of_methodNamed hnamed
  have hinitP : kP.init = .initialized := Cond.initialized_spec (findClass_of_methodNamed hnamed) hkP hinit
  obtain ⟨vm₁, X₁, hstep₁⟩ := X.invokestatic hexec hown hlink hnamed hmethM hstatic hkP hinitP hy (g := g) hg (argsL := argsL) (rest := rest) (hlen _ hsigM) hstack hdg
  rcases hK m meth c ⟨T.setVm vm₁, locs, cells, slots⟩ { g with stack := rest } (.invokestatic index) mk argsL.toArray X₁ hg hsize hdg hW (X₁.named hnamed) (hpre vm₁ X₁.warmed) with ⟨v, B, X', hpost, hsteps⟩ | ⟨q, B, X', hpost, hsteps⟩
  · exact Or.inl ⟨v, vm₁, B, X₁.warmed, X', hpost, fun target h => hstep₁ _ fun acts => by rw [doInvoke_state]; exact hsteps.trans h⟩
  · exact Or.inr ⟨q, vm₁, B, X₁.warmed, X', hpost, hstep₁ _ fun acts => by rw [doInvoke_state]; exact hsteps⟩
end Calls
theorem vx_cls {s : State} {T : State} {vm₁ : Vm} {E : String} {k : ClassId} (hW : s.WarmedH vm₁) (h : (T.setVm vm₁).vm.findClass E = some k) : s.vm.findClass E = some k := by
  have h1 : vm₁.findClass E = some k := h
  rw [hW.alike.findClass] at h1
  exact h1
/-- the method's frame g, with q thrown over it -/
def vx_W (p : Program) (l : Launch) (e : Env) (R : Room) (s : State) (m : MethodId) (args : Array Value) (below : List Frame) (meth : Method) (c : Code) (H : Heap) (locs : List Loc) (cells slots : Nat) (Q : State → Prop) (g : JFrame) (q : Addr) : Prop :=
  ∀ T : State, T.heap = H → Stand p l e R s m args below meth c T locs cells slots → ∃ t, Steps p.tables e below ((T.setTop g).pushFrame (.throwing q)) t ∧ Q t
def vx_Run (p : Program) (l : Launch) (e : Env) (R : Room) (s : State) (m : MethodId) (args : Array Value) (below : List Frame) (meth : Method) (c : Code) (H : Heap) (locs : List Loc) (cells slots mc ms : Nat) (g : JFrame) (rest : List Value) (Qa : State → Outcome → State → Prop) (XC : String → State → State → Prop) (free : Addr → Prop) : Prop :=
  ∀ T : State, T.heap = H → Stand p l e R s m args below meth c T locs cells slots →
    (∃ (v : Option Value) (st₀ t T' : State) (L : List Loc), st₀.heap = H ∧ Stand p l e R s m args below meth c T' (locs ++ L) (cells + mc) (slots + ms) ∧ (∀ q ∈ L, free q.base) ∧ T'.heap = t.heap ∧ T'.vm = t.vm ∧ Qa st₀ (.returned v) t ∧
      Goes p e below T g T' { g with pc := g.pc + 3, stack := v.toList ++ rest }) ∨
    (∃ (q : Addr) (st₀ t T' : State) (L : List Loc) (E : String) (ce : Cell), st₀.heap = H ∧ Stand p l e R s m args below meth c T' (locs ++ L) (cells + mc) (slots + ms) ∧ (∀ z ∈ L, free z.base) ∧ T'.heap = t.heap ∧ T'.vm = t.vm ∧ XC E st₀ t ∧ t.heap[q]? = some ce ∧ ce.vm = .none ∧ s.vm.findClass E = some ce.cls ∧
      Steps p.tables e below (T.setTop g) ((T'.setTop { g with stack := rest }).pushFrame (.throwing q)))
def vx_X {S : Type} (px : S → Prop) (B : String → S → State → Prop) (A : Nat → Prop) : String → State → State → Prop := fun E st t => ∃ u : S, px u ∧ B E u t ∧ va_F A st t
section Runs
variable {p : Program} {l : Launch} {e : Env} {R : Room} {s : State} {m : MethodId} {args : Array Value} {below : List Frame} {meth : Method} {c : Code} {H : Heap} {locs : List Loc} {cells slots : Nat}
variable {y : MethodName} {bytes cc : ByteArray} {maxL nL mc ms n index : Nat} {ret : Option FieldType} {ws : List Cond} {rm : Room} {Pc : Array Value → State → Prop} {Qc : Array Value → State → Outcome → State → Prop} {XC : String → State → State → Prop} {free : Addr → Prop} {Ts : List Cond} {own C : String} {b : Addr} {As rest : List Value} {g : JFrame}
theorem vx_callBack (cb : CallB R s args own index y bytes maxL ret ws rm mc ms n) (hM : vx_Met l y ws rm Pc Qc XC mc ms free) (hbl : FrameBlind Pc) : vx_Back l R p e below s args y 3 8 (PreOf R mc ms Pc) (PostOf Qc mc ms free) (vx_Post XC mc ms free) := by
  obtain ⟨hrc, hrs, hfr, hlo, hws, hcw, -, hini, -⟩ := cb
  exact vx_back (bytes := bytes) (maxL := maxL) (ret := ret) hM hbl hrc hrs hfr hlo hws hcw (fun a' U hW => word_at hW (Or.inl (by first | rfl | simp [Cond.onTables, Cond.keeps, Cond.steady])) hini)
theorem vx_runV (S : CallFix p m c cc nL s args Ts own) (hM : vx_Met l y ws rm Pc Qc XC mc ms free) (cw : CallW R s args own C index y bytes maxL ret ws rm mc ms n) (hp : PreV s H C b Pc As)
    (hg : g.method = m) (hn : As.length = n) (hsize : g.locals.size = nL) (hstack : g.stack = As.reverse ++ .ref b :: rest) (hW : 2 * g.monitorRoom + (rest.map fun v => v.category).sum ≤ 8) (hdg : decode cc g.pc = .ok (.invokevirtual index, 3)) (hf : cells + mc ≤ R.cells ∧ slots + ms ≤ R.slots) :
    vx_Run p l e R s m args below meth c H locs cells slots mc ms g rest (Qc (Value.ref b :: As).toArray) XC free := by
  have hK : vx_Back l R p e below s args y 3 8 (PreOf R mc ms Pc) (PostOf Qc mc ms free) (vx_Post XC mc ms free) := vx_callBack cw.1 hM hp.1
  obtain ⟨⟨-, -, -, -, -, -, hcode, -, hy, hlen, hl⟩, hin, hse⟩ := cw
  obtain ⟨hx, hb, hml, ho, -⟩ := S
  obtain ⟨-, ⟨cellB, hcB, hoB, hclB⟩, hPc⟩ := hp
  intro T hT X
  rcases vx_callV X hx (C := C) (bytes := bytes) (maxL := maxL) (ret := ret) ho hl hin hse hcode hy hK (by rw [hT]; exact hcB) hoB hclB hg (hsize.trans hml.symm) (argsL := As) (rest := rest) (fun sig h => hn.trans (hlen sig h)) hstack hW (by rw [hb]; exact hdg)
    (fun vm₁ hW₁ => ⟨hf.1, hf.2, hPc (T.setVm vm₁) hT hW₁⟩) with ⟨v, vm₁, ⟨U', l2, c2, s2⟩, hW₁, X', ⟨g', mk, t, L, e1, e2, hq, h1, hL, h2, h3⟩, st⟩ | ⟨q, vm₁, ⟨U', l2, c2, s2⟩, hW₁, X', ⟨g', mk, t, L, E, ce, e1, e2, hq, hce, hcv, hcl, h1, hL, h2, h3⟩, st⟩
  · dsimp only [Pt.U, Pt.locs, Pt.cells, Pt.slots] at X' e1 e2 h1 h2 h3 st
    subst h1; subst h2; subst h3
    exact Or.inl ⟨v, (T.setVm vm₁).calling g' mk (Value.ref b :: As).toArray, t, U', L, hT, X', hL, e1, e2, hq, st⟩
  · dsimp only [Pt.U, Pt.locs, Pt.cells, Pt.slots] at X' e1 e2 h1 h2 h3 st hcl
    subst h1; subst h2; subst h3
    exact Or.inr ⟨q, (T.setVm vm₁).calling g' mk (Value.ref b :: As).toArray, t, U', L, E, ce, hT, X', hL, e1, e2, hq, hce, hcv, vx_cls hW₁ hcl, st⟩
theorem vx_runS (S : CallFix p m c cc nL s args Ts own) (hM : vx_Met l y ws rm Pc Qc XC mc ms free) (cw : CallB R s args own index y bytes maxL ret ws rm mc ms n ∧ (Cond.static y).before args s = true) (hp : PreS s H Pc As)
    (hg : g.method = m) (hn : As.length = n) (hsize : g.locals.size = nL) (hstack : g.stack = As.reverse ++ rest) (hW : 2 * g.monitorRoom + (rest.map fun v => v.category).sum ≤ 8) (hdg : decode cc g.pc = .ok (.invokestatic index, 3)) (hf : cells + mc ≤ R.cells ∧ slots + ms ≤ R.slots) :
    vx_Run p l e R s m args below meth c H locs cells slots mc ms g rest (Qc As.toArray) XC free := by
  have hK : vx_Back l R p e below s args y 3 8 (PreOf R mc ms Pc) (PostOf Qc mc ms free) (vx_Post XC mc ms free) := vx_callBack cw.1 hM hp.1
  obtain ⟨⟨-, -, -, -, -, -, hcode, hini, hy, hlen, hl⟩, hstt⟩ := cw
  obtain ⟨hx, hb, hml, ho, -⟩ := S
  intro T hT X
  rcases vx_callS X hx (bytes := bytes) (maxL := maxL) (ret := ret) ho hl hstt hini hcode hy hK hg (hsize.trans hml.symm) (argsL := As) (rest := rest) (fun sig h => hn.trans (hlen sig h)) hstack hW (by rw [hb]; exact hdg)
    (fun vm₁ hW₁ => ⟨hf.1, hf.2, hp.2 (T.setVm vm₁) hT hW₁⟩) with ⟨v, vm₁, ⟨U', l2, c2, s2⟩, hW₁, X', ⟨g', mk, t, L, e1, e2, hq, h1, hL, h2, h3⟩, st⟩ | ⟨q, vm₁, ⟨U', l2, c2, s2⟩, hW₁, X', ⟨g', mk, t, L, E, ce, e1, e2, hq, hce, hcv, hcl, h1, hL, h2, h3⟩, st⟩
  · dsimp only [Pt.U, Pt.locs, Pt.cells, Pt.slots] at X' e1 e2 h1 h2 h3 st
    subst h1; subst h2; subst h3
    exact Or.inl ⟨v, (T.setVm vm₁).calling g' mk As.toArray, t, U', L, hT, X', hL, e1, e2, hq, st⟩
  · dsimp only [Pt.U, Pt.locs, Pt.cells, Pt.slots] at X' e1 e2 h1 h2 h3 st hcl
    subst h1; subst h2; subst h3
    exact Or.inr ⟨q, (T.setVm vm₁).calling g' mk As.toArray, t, U', L, E, ce, hT, X', hL, e1, e2, hq, hce, hcv, vx_cls hW₁ hcl, st⟩
end Runs
section Rows
variable {p : Program} {l : Launch} {e : Env} {R : Room} {s : State} {m : MethodId} {args : Array Value} {below : List Frame} {meth : Method} {c : Code} {H : Heap} {locs : List Loc} {cells slots : Nat} {Q : State → Prop}
variable {mc ms : Nat} {free : Addr → Prop} {A0 A1 : Nat → Prop} {H0 : Heap} {a : Array Value} {pc : Nat} {ls : Array Slot} {st0 rest : List Value}
theorem vx_keep {st₀ t T' : State} {L : List Loc} (h0 : st₀.heap = H) (e1 : T'.heap = t.heap) (hS : va_S A0 H0 H locs) (hA : ∀ q, q < H.size → A1 q → A0 q) (hf : ∀ q, free q → A0 q) (hL : ∀ q ∈ L, free q.base) (hF : va_F A1 st₀ t) :
    H.size ≤ T'.heap.size ∧ (∀ q : Nat, q < H.size → ¬ A1 q → T'.heap[q]? = H[q]?) ∧ va_S A0 H0 T'.heap (locs ++ L) := by
  obtain ⟨hz, hk⟩ := hF
  rw [h0] at hz hk
  exact ⟨by rw [e1]; exact hz, fun q h1 h2 => by rw [e1]; exact hk q h1 h2,
    ⟨Nat.le_trans hS.1 (by rw [e1]; exact hz), fun q h1 h2 => by rw [e1, hk q (Nat.lt_of_lt_of_le h1 hS.1) (fun z => h2 (hA q (Nat.lt_of_lt_of_le h1 hS.1) z))]; exact hS.2.1 q h1 h2, fun q hq => by
      rcases List.mem_append.mp hq with h | h
      · exact hS.2.2 q h
      · exact hf _ (hL q h)⟩⟩
theorem vx_calli {S SX : Type} {post : Int32 → S → Prop} {px : SX → Prop} {B : S → State → Prop} {BX : String → SX → State → Prop} {AX : Nat → Prop} (hr : vx_Run p l e R s m args below meth c H locs cells slots mc ms (F0 m pc ls st0) rest (va_Qi post B A1 a) (vx_X px BX AX) free) (hS : va_S A0 H0 H locs) (hA : ∀ q, q < H.size → A1 q → A0 q) (hf : ∀ q, free q → A0 q) (hAX : ∀ q, q < H.size → AX q → A0 q)
    (kx : ∀ (E : String) (ce : Cell) (q9 : Addr) (u : SX) (t : State) (H1 : Heap) (locs1 : List Loc), t.heap = H1 → s.vm.Alike t.vm → px u → BX E u t → H.size ≤ H1.size → (∀ q : Nat, q < H.size → ¬ AX q → H1[q]? = H[q]?) → va_S A0 H0 H1 locs1 → H1[q9]? = some ce → ce.vm = .none → s.vm.findClass E = some ce.cls → vx_W p l e R s m args below meth c H1 locs1 (cells + mc) (slots + ms) Q (F0 m pc ls rest) q9)
    (kk : ∀ (r : Int32) (u : S) (t : State) (H1 : Heap) (locs1 : List Loc), t.heap = H1 → s.vm.Alike t.vm → post r u → B u t → H.size ≤ H1.size → (∀ q : Nat, q < H.size → ¬ A1 q → H1[q]? = H[q]?) → va_S A0 H0 H1 locs1 → W p l e R s m args below meth c H1 locs1 (cells + mc) (slots + ms) Q (F0 m (pc + 3) ls (.int r :: rest))) : W p l e R s m args below meth c H locs cells slots Q (F0 m pc ls st0) := by
  intro T hT X
  rcases hr T hT X with ⟨v, st₀, t, T', L, h0, X', hL, e1, e2, ⟨⟨r, u, hv, hp, hb⟩, hF⟩, st⟩ | ⟨q, st₀, t, T', L, E, ce, h0, X', hL, e1, e2, ⟨u, hp, hb, hF⟩, hce, hcv, hcl, st⟩
  · cases hv
    obtain ⟨k1, k2, k3⟩ := vx_keep h0 e1 hS hA hf hL hF
    obtain ⟨t2, a1, b1⟩ := kk r u t T'.heap (locs ++ L) e1.symm (by rw [← e2]; exact X'.warmed.alike) hp hb k1 k2 k3 T' rfl X'
    exact ⟨t2, st t2 a1, b1⟩
  · obtain ⟨k1, k2, k3⟩ := vx_keep h0 e1 hS hAX hf hL hF
    obtain ⟨t2, a1, b1⟩ := kx E ce q u t T'.heap (locs ++ L) e1.symm (by rw [← e2]; exact X'.warmed.alike) hp hb k1 k2 k3 (by rw [e1]; exact hce) hcv hcl T' rfl X'
    exact ⟨t2, st.trans a1, b1⟩
theorem vx_calll {S SX : Type} {post : Int64 → S → Prop} {px : SX → Prop} {B : S → State → Prop} {BX : String → SX → State → Prop} {AX : Nat → Prop} (hr : vx_Run p l e R s m args below meth c H locs cells slots mc ms (F0 m pc ls st0) rest (va_Ql post B A1 a) (vx_X px BX AX) free) (hS : va_S A0 H0 H locs) (hA : ∀ q, q < H.size → A1 q → A0 q) (hf : ∀ q, free q → A0 q) (hAX : ∀ q, q < H.size → AX q → A0 q)
    (kx : ∀ (E : String) (ce : Cell) (q9 : Addr) (u : SX) (t : State) (H1 : Heap) (locs1 : List Loc), t.heap = H1 → s.vm.Alike t.vm → px u → BX E u t → H.size ≤ H1.size → (∀ q : Nat, q < H.size → ¬ AX q → H1[q]? = H[q]?) → va_S A0 H0 H1 locs1 → H1[q9]? = some ce → ce.vm = .none → s.vm.findClass E = some ce.cls → vx_W p l e R s m args below meth c H1 locs1 (cells + mc) (slots + ms) Q (F0 m pc ls rest) q9)
    (kk : ∀ (r : Int64) (u : S) (t : State) (H1 : Heap) (locs1 : List Loc), t.heap = H1 → s.vm.Alike t.vm → post r u → B u t → H.size ≤ H1.size → (∀ q : Nat, q < H.size → ¬ A1 q → H1[q]? = H[q]?) → va_S A0 H0 H1 locs1 → W p l e R s m args below meth c H1 locs1 (cells + mc) (slots + ms) Q (F0 m (pc + 3) ls (.long r :: rest))) : W p l e R s m args below meth c H locs cells slots Q (F0 m pc ls st0) := by
  intro T hT X
  rcases hr T hT X with ⟨v, st₀, t, T', L, h0, X', hL, e1, e2, ⟨⟨r, u, hv, hp, hb⟩, hF⟩, st⟩ | ⟨q, st₀, t, T', L, E, ce, h0, X', hL, e1, e2, ⟨u, hp, hb, hF⟩, hce, hcv, hcl, st⟩
  · cases hv
    obtain ⟨k1, k2, k3⟩ := vx_keep h0 e1 hS hA hf hL hF
    obtain ⟨t2, a1, b1⟩ := kk r u t T'.heap (locs ++ L) e1.symm (by rw [← e2]; exact X'.warmed.alike) hp hb k1 k2 k3 T' rfl X'
    exact ⟨t2, st t2 a1, b1⟩
  · obtain ⟨k1, k2, k3⟩ := vx_keep h0 e1 hS hAX hf hL hF
    obtain ⟨t2, a1, b1⟩ := kx E ce q u t T'.heap (locs ++ L) e1.symm (by rw [← e2]; exact X'.warmed.alike) hp hb k1 k2 k3 (by rw [e1]; exact hce) hcv hcl T' rfl X'
    exact ⟨t2, st.trans a1, b1⟩
theorem vx_callf {S SX : Type} {post : UInt32 → S → Prop} {px : SX → Prop} {B : S → State → Prop} {BX : String → SX → State → Prop} {AX : Nat → Prop} (hr : vx_Run p l e R s m args below meth c H locs cells slots mc ms (F0 m pc ls st0) rest (va_Qf post B A1 a) (vx_X px BX AX) free) (hS : va_S A0 H0 H locs) (hA : ∀ q, q < H.size → A1 q → A0 q) (hf : ∀ q, free q → A0 q) (hAX : ∀ q, q < H.size → AX q → A0 q)
    (kx : ∀ (E : String) (ce : Cell) (q9 : Addr) (u : SX) (t : State) (H1 : Heap) (locs1 : List Loc), t.heap = H1 → s.vm.Alike t.vm → px u → BX E u t → H.size ≤ H1.size → (∀ q : Nat, q < H.size → ¬ AX q → H1[q]? = H[q]?) → va_S A0 H0 H1 locs1 → H1[q9]? = some ce → ce.vm = .none → s.vm.findClass E = some ce.cls → vx_W p l e R s m args below meth c H1 locs1 (cells + mc) (slots + ms) Q (F0 m pc ls rest) q9)
    (kk : ∀ (r : UInt32) (u : S) (t : State) (H1 : Heap) (locs1 : List Loc), t.heap = H1 → s.vm.Alike t.vm → post r u → B u t → H.size ≤ H1.size → (∀ q : Nat, q < H.size → ¬ A1 q → H1[q]? = H[q]?) → va_S A0 H0 H1 locs1 → W p l e R s m args below meth c H1 locs1 (cells + mc) (slots + ms) Q (F0 m (pc + 3) ls (.float r :: rest))) : W p l e R s m args below meth c H locs cells slots Q (F0 m pc ls st0) := by
  intro T hT X
  rcases hr T hT X with ⟨v, st₀, t, T', L, h0, X', hL, e1, e2, ⟨⟨r, u, hv, hp, hb⟩, hF⟩, st⟩ | ⟨q, st₀, t, T', L, E, ce, h0, X', hL, e1, e2, ⟨u, hp, hb, hF⟩, hce, hcv, hcl, st⟩
  · cases hv
    obtain ⟨k1, k2, k3⟩ := vx_keep h0 e1 hS hA hf hL hF
    obtain ⟨t2, a1, b1⟩ := kk r u t T'.heap (locs ++ L) e1.symm (by rw [← e2]; exact X'.warmed.alike) hp hb k1 k2 k3 T' rfl X'
    exact ⟨t2, st t2 a1, b1⟩
  · obtain ⟨k1, k2, k3⟩ := vx_keep h0 e1 hS hAX hf hL hF
    obtain ⟨t2, a1, b1⟩ := kx E ce q u t T'.heap (locs ++ L) e1.symm (by rw [← e2]; exact X'.warmed.alike) hp hb k1 k2 k3 (by rw [e1]; exact hce) hcv hcl T' rfl X'
    exact ⟨t2, st.trans a1, b1⟩
theorem vx_calld {S SX : Type} {post : UInt64 → S → Prop} {px : SX → Prop} {B : S → State → Prop} {BX : String → SX → State → Prop} {AX : Nat → Prop} (hr : vx_Run p l e R s m args below meth c H locs cells slots mc ms (F0 m pc ls st0) rest (va_Qd post B A1 a) (vx_X px BX AX) free) (hS : va_S A0 H0 H locs) (hA : ∀ q, q < H.size → A1 q → A0 q) (hf : ∀ q, free q → A0 q) (hAX : ∀ q, q < H.size → AX q → A0 q)
    (kx : ∀ (E : String) (ce : Cell) (q9 : Addr) (u : SX) (t : State) (H1 : Heap) (locs1 : List Loc), t.heap = H1 → s.vm.Alike t.vm → px u → BX E u t → H.size ≤ H1.size → (∀ q : Nat, q < H.size → ¬ AX q → H1[q]? = H[q]?) → va_S A0 H0 H1 locs1 → H1[q9]? = some ce → ce.vm = .none → s.vm.findClass E = some ce.cls → vx_W p l e R s m args below meth c H1 locs1 (cells + mc) (slots + ms) Q (F0 m pc ls rest) q9)
    (kk : ∀ (r : UInt64) (u : S) (t : State) (H1 : Heap) (locs1 : List Loc), t.heap = H1 → s.vm.Alike t.vm → post r u → B u t → H.size ≤ H1.size → (∀ q : Nat, q < H.size → ¬ A1 q → H1[q]? = H[q]?) → va_S A0 H0 H1 locs1 → W p l e R s m args below meth c H1 locs1 (cells + mc) (slots + ms) Q (F0 m (pc + 3) ls (.double r :: rest))) : W p l e R s m args below meth c H locs cells slots Q (F0 m pc ls st0) := by
  intro T hT X
  rcases hr T hT X with ⟨v, st₀, t, T', L, h0, X', hL, e1, e2, ⟨⟨r, u, hv, hp, hb⟩, hF⟩, st⟩ | ⟨q, st₀, t, T', L, E, ce, h0, X', hL, e1, e2, ⟨u, hp, hb, hF⟩, hce, hcv, hcl, st⟩
  · cases hv
    obtain ⟨k1, k2, k3⟩ := vx_keep h0 e1 hS hA hf hL hF
    obtain ⟨t2, a1, b1⟩ := kk r u t T'.heap (locs ++ L) e1.symm (by rw [← e2]; exact X'.warmed.alike) hp hb k1 k2 k3 T' rfl X'
    exact ⟨t2, st t2 a1, b1⟩
  · obtain ⟨k1, k2, k3⟩ := vx_keep h0 e1 hS hAX hf hL hF
    obtain ⟨t2, a1, b1⟩ := kx E ce q u t T'.heap (locs ++ L) e1.symm (by rw [← e2]; exact X'.warmed.alike) hp hb k1 k2 k3 (by rw [e1]; exact hce) hcv hcl T' rfl X'
    exact ⟨t2, st.trans a1, b1⟩
theorem vx_callv {S SX : Type} {post : S → Prop} {px : SX → Prop} {B : S → State → Prop} {BX : String → SX → State → Prop} {AX : Nat → Prop} (hr : vx_Run p l e R s m args below meth c H locs cells slots mc ms (F0 m pc ls st0) rest (va_Qv post B A1 a) (vx_X px BX AX) free) (hS : va_S A0 H0 H locs) (hA : ∀ q, q < H.size → A1 q → A0 q) (hf : ∀ q, free q → A0 q) (hAX : ∀ q, q < H.size → AX q → A0 q)
    (kx : ∀ (E : String) (ce : Cell) (q9 : Addr) (u : SX) (t : State) (H1 : Heap) (locs1 : List Loc), t.heap = H1 → s.vm.Alike t.vm → px u → BX E u t → H.size ≤ H1.size → (∀ q : Nat, q < H.size → ¬ AX q → H1[q]? = H[q]?) → va_S A0 H0 H1 locs1 → H1[q9]? = some ce → ce.vm = .none → s.vm.findClass E = some ce.cls → vx_W p l e R s m args below meth c H1 locs1 (cells + mc) (slots + ms) Q (F0 m pc ls rest) q9)
    (kk : ∀ (u : S) (t : State) (H1 : Heap) (locs1 : List Loc), t.heap = H1 → s.vm.Alike t.vm → post u → B u t → H.size ≤ H1.size → (∀ q : Nat, q < H.size → ¬ A1 q → H1[q]? = H[q]?) → va_S A0 H0 H1 locs1 → W p l e R s m args below meth c H1 locs1 (cells + mc) (slots + ms) Q (F0 m (pc + 3) ls (rest))) : W p l e R s m args below meth c H locs cells slots Q (F0 m pc ls st0) := by
  intro T hT X
  rcases hr T hT X with ⟨v, st₀, t, T', L, h0, X', hL, e1, e2, ⟨⟨u, hv, hp, hb⟩, hF⟩, st⟩ | ⟨q, st₀, t, T', L, E, ce, h0, X', hL, e1, e2, ⟨u, hp, hb, hF⟩, hce, hcv, hcl, st⟩
  · cases hv
    obtain ⟨k1, k2, k3⟩ := vx_keep h0 e1 hS hA hf hL hF
    obtain ⟨t2, a1, b1⟩ := kk u t T'.heap (locs ++ L) e1.symm (by rw [← e2]; exact X'.warmed.alike) hp hb k1 k2 k3 T' rfl X'
    exact ⟨t2, st t2 a1, b1⟩
  · obtain ⟨k1, k2, k3⟩ := vx_keep h0 e1 hS hAX hf hL hF
    obtain ⟨t2, a1, b1⟩ := kx E ce q u t T'.heap (locs ++ L) e1.symm (by rw [← e2]; exact X'.warmed.alike) hp hb k1 k2 k3 (by rw [e1]; exact hce) hcv hcl T' rfl X'
    exact ⟨t2, st.trans a1, b1⟩
/-- caught by the row x of this method's table; the rows ahead don't take it -/
theorem vx_catch {own name : String} {E : String} {ce : Cell} {q : Addr} (hown : s.vm.findClass own = some m.cls) (pre : List ExceptionTableEntry) (x : ExceptionTableEntry) (suf : List ExceptionTableEntry) (hsplit : c.exceptionTable.toList = pre ++ x :: suf)
    (hpass : ∀ z ∈ pre, covers z pc = false ∨ (z.catchType ≠ 0 ∧ ∃ nm : String, (Cond.classLink own z.catchType nm).before args s = true ∧ va_Nc E nm s)) (hx : covers x pc = true) (h0 : x.catchType ≠ 0)
    (hlink : (Cond.classLink own x.catchType name).before args s = true) (hcast : (Cond.castable E name).before args s = true) (hcell : H[q]? = some ce) (hv : ce.vm = .none) (hcl : s.vm.findClass E = some ce.cls)
    (kk : W p l e R s m args below meth c H locs cells slots Q (F0 m x.handlerPc ls [.ref q])) : vx_W p l e R s m args below meth c H locs cells slots Q (F0 m pc ls rest) q := by
  intro T hT X
  have hpl : e.platform.magicAccessors = ({} : Platform).magicAccessors := by rw [X.admits.platform]
  obtain ⟨c3, c4, hc3, hc4, hasg⟩ := Cond.castable_spec hcast
  cases Option.some.inj (hc3.symm.trans hcl)
  obtain ⟨c5, hc5, hcl5⟩ := Cond.classLink_spec hown hlink e.platform hpl
  cases Option.some.inj (hc4.symm.trans hc5)
  obtain ⟨vm', X', st⟩ := Jvm.Stand.thenCaughtThrough X q (g := F0 m pc ls rest) rfl (Steps.refl _) (by rw [hT]; exact hcell) (by rw [hv]; rfl) (by obtain ⟨k9, h9, -⟩ := Vm.findClass_spec hcl; exact ⟨k9, h9⟩) pre x suf hsplit
    (fun z hz => by
      rcases hpass z hz with h | ⟨hz0, nm, hl1, hn1⟩
      · exact Or.inl h
      · obtain ⟨c6, hc6, hcl6⟩ := Cond.classLink_spec hown hl1 e.platform hpl
        obtain ⟨a8, b8, h1, h2, h3⟩ := hn1
        cases Option.some.inj (h1.symm.trans hcl)
        cases Option.some.inj (h2.symm.trans hc6)
        exact Or.inr ⟨hz0, _, hcl6, h3⟩) hx (Or.inr ⟨h0, c4, hcl5, hasg⟩)
  obtain ⟨t, a1, b1⟩ := kk (T.setVm vm') hT X'
  exact ⟨t, st.trans a1, b1⟩
end Rows
section Ends
variable {p : Program} {l : Launch} {e : Env} {R : Room} {s : State} {m : MethodId} {args : Array Value} {below : List Frame} {meth : Method} {c : Code} {H : Heap} {locs : List Loc} {cells slots : Nat} {Q : State → Prop}
variable {mc ms : Nat} {free : Addr → Prop} {A0 A1 : Nat → Prop} {H0 : Heap} {a : Array Value} {ls : Array Slot} {st0 rest : List Value}
variable {Qc : Array Value → State → Outcome → State → Prop} {XC : String → State → State → Prop}
/-- what a body that may throw owes at its end -/
def vx_MQ (below : List Frame) (Qc : Array Value → State → Outcome → State → Prop) (XC : String → State → State → Prop) (a : Array Value) (s : State) (mc ms : Nat) (free : Addr → Prop) : State → Prop := fun t =>
  ∃ o, t.status = .running ∧ Ended t below o ∧ vx_Q Qc XC mc ms free a s o t
theorem vx_ret {g : JFrame} {mc ms : Nat} (k : W p l e R s m args below meth c H locs cells slots (MQ below Qc args s mc ms free) g) : W p l e R s m args below meth c H locs cells slots (vx_MQ below Qc XC args s mc ms free) g := by
  intro T hT X
  obtain ⟨t, a1, o, b1, b2, b3, b4⟩ := k T hT X
  exact ⟨t, a1, o, b1, b2, Or.inl ⟨b3, b4⟩⟩
/-- not caught here: it goes on to the caller -/
theorem vx_widen {g : JFrame} {q : Addr} {k n : Nat} (h1 : cells ≤ k) (h2 : slots ≤ n) (kk : vx_W p l e R s m args below meth c H locs k n Q g q) : vx_W p l e R s m args below meth c H locs cells slots Q g q := fun T hT X => kk T hT (stand_widen X h1 h2)
theorem vx_out {pc : Nat} {E : String} {ce : Cell} {q : Addr} {mc ms : Nat} (hout : ∀ x ∈ c.exceptionTable.toList, covers x pc = false) (hlocks : meth.locks = false) (hcell : H[q]? = some ce) (hv : ce.vm = .none) (hcl : s.vm.findClass E = some ce.cls)
    (hx : ∀ t : State, t.heap = H → s.vm.Alike t.vm → XC E s t) (hf : ∀ z ∈ locs, free z.base) (hc : cells ≤ mc) (hs : slots ≤ ms) :
    vx_W p l e R s m args below meth c H locs cells slots (vx_MQ below Qc XC args s mc ms free) (F0 m pc ls rest) q := by
  intro T hT X
  obtain ⟨st1, hrun, hend, hW, hsm⟩ := X.leaveThrown q (g := F0 m pc ls rest) rfl rfl rfl hout hlocks
  have hcell9 : (T.setFrames (.throwing q :: below)).heap[q]? = some ce := by
    show T.heap[q]? = some ce
    rw [hT]; exact hcell
  exact ⟨_, st1, .threw q, hrun, hend, Or.inr ⟨q, rfl, E, ce, locs, hx _ hT hW.alike, hcell9, hv, hcl, hW, hsm.mono hc hs, hf⟩⟩
theorem vx_frame {U : State} {k n : Nat} (h : s.sameButNew ({ U with vm := s.vm } : State) locs k n) : s.heap.size ≤ U.heap.size ∧ ∀ q : Nat, q < s.heap.size → (∀ z ∈ locs, z.base ≠ q) → U.heap[q]? = s.heap[q]? := by
  obtain ⟨-, h2, -, -, -, h6⟩ := h
  refine ⟨h2, fun q hq hz => ?_⟩
  obtain ⟨c9, e1, e2, e3, e4⟩ := h6 q _ (Array.getElem?_eq_getElem hq)
  have hs : c9.slots = (s.heap[q]).slots := Array.ext_getElem? fun i => e4 i fun hm => hz _ hm rfl
  have h9 : c9 = s.heap[q] := by
    rw [hs] at e2
    exact e2
  have e5 : U.heap[q]? = some c9 := e1
  rw [e5, h9, Array.getElem?_eq_getElem hq]
/-- the words of a throw but the four that speak of the heap -/
def vx_no (w : Cond) : Bool := decide (w ≠ .isRef (.static Bundle.tN "UNASSIGNED_STACK" Bundle.steD)) && decide (w ≠ .isRef (.static Bundle.tN "SUPPRESSED_SENTINEL" Bundle.listD)) && decide (w ≠ .laysStatic Bundle.tN "UNASSIGNED_STACK" Bundle.steD) && decide (w ≠ .laysStatic Bundle.tN "SUPPRESSED_SENTINEL" Bundle.listD)
def vx_at0 (own : String) (ic : Nat) (X : String) (names : List String) : List Cond := (Bundle.ownAtoms0 own ic X names).filter vx_no
def vx_atS (own : String) (ic : Nat) (X : String) (names : List String) : List Cond := (Bundle.ownAtoms own ic X names).filter vx_no
/-- a word that the tables alone decide, or a good one -/
def vx_ot (w : Cond) : Bool := w.onTables || goodWord w
theorem vx_ot_at {args a' : Array Value} {s U : State} {w : Cond} (hW : s.WarmedH U.vm) (hvm : s.vm = U.vm) (hg : vx_ot w = true) (h : w.before args s = true) : w.before a' U = true := by
  simp only [vx_ot, Bool.or_eq_true] at hg
  rcases hg with hg | hg
  · exact va_tabs hg hvm h
  · exact word_at hW (good_of_word hg) h
/-- a list's words: the good ones out of the method's own list, the others by premises of their own -/
theorem vx_hat {args : Array Value} {s : State} {L B : List Cond} (h1 : ∀ w ∈ L.filter goodWord, w.before args s = true) (h2 : ∀ w ∈ L.filter (fun w => !goodWord w), w ∈ B) (h3 : ∀ w ∈ B, w.before args s = true) : ∀ w ∈ L, w.before args s = true := by
  intro w hw
  by_cases g : goodWord w = true
  · exact h1 w (List.mem_filter.mpr ⟨hw, g⟩)
  · refine h3 w (h2 w (List.mem_filter.mpr ⟨hw, ?_⟩))
    show (!goodWord w) = true
    cases hgw : goodWord w
    · rfl
    · exact absurd hgw g
theorem vx_c {args : Array Value} {s : State} {w : Cond} {B : List Cond} (h : w.before args s = true) (t : ∀ w ∈ B, w.before args s = true) : ∀ w' ∈ w :: B, w'.before args s = true := fun w' h' => (List.mem_cons.mp h').elim (fun e => by rw [e]; exact h) (t w')
theorem vx_n {args : Array Value} {s : State} : ∀ w ∈ ([] : List Cond), w.before args s = true := fun _ h => nomatch h
theorem vx_own {args : Array Value} {s : State} {L : List Cond} (h1 : ∀ w ∈ L.filter vx_no, w.before args s = true)
    (hU : (Cond.isRef (.static Bundle.tN "UNASSIGNED_STACK" Bundle.steD)).before args s = true) (hN : (Cond.isRef (.static Bundle.tN "SUPPRESSED_SENTINEL" Bundle.listD)).before args s = true)
    (lU : (Cond.laysStatic Bundle.tN "UNASSIGNED_STACK" Bundle.steD).before args s = true) (lN : (Cond.laysStatic Bundle.tN "SUPPRESSED_SENTINEL" Bundle.listD).before args s = true) : ∀ w ∈ L, w.before args s = true := by
  intro w hw
  by_cases e1 : w = .isRef (.static Bundle.tN "UNASSIGNED_STACK" Bundle.steD)
  · rw [e1]; exact hU
  · by_cases e2 : w = .isRef (.static Bundle.tN "SUPPRESSED_SENTINEL" Bundle.listD)
    · rw [e2]; exact hN
    · by_cases e3 : w = .laysStatic Bundle.tN "UNASSIGNED_STACK" Bundle.steD
      · rw [e3]; exact lU
      · by_cases e4 : w = .laysStatic Bundle.tN "SUPPRESSED_SENTINEL" Bundle.listD
        · rw [e4]; exact lN
        · exact h1 w (List.mem_filter.mpr ⟨hw, by unfold vx_no; rw [decide_eq_true e1, decide_eq_true e2, decide_eq_true e3, decide_eq_true e4]; rfl⟩)
/-- where a static field lies, its class's statics cell in H -/
def vx_L (C n d : String) (A : Nat → Prop) (U : State) (H : Heap) : Prop := ∃ (c : ClassId) (k : Class) (i : Nat) (f : Field) (a : Nat) (cell : Cell), U.vm.findClass C = some c ∧ U.fieldFound? C n d = some (c, k, i, f) ∧ f.isStatic = true ∧ k.statics = some a ∧ H[a]? = some cell ∧ cell.vm.isStatics = true ∧ cell.cls = c ∧ f.slot < cell.slots.size ∧ k.staticTypes[f.slot]? = some f.type ∧ ¬ A a
theorem vx_L.moved {C n d : String} {A : Nat → Prop} {u U : State} {H : Heap} (hvm : u.vm.Alike U.vm) (h : vx_L C n d A u H) : vx_L C n d A U H := by
  obtain ⟨c, k, i, f, a, cell, h1, h2, h3, h4, h5, h6, h7, h8, h9, h10⟩ := h
  obtain ⟨k', hi', he⟩ := State.fieldFound?_setVm hvm h2
  exact ⟨c, k', i, f, a, cell, by rw [hvm.findClass]; exact h1, hi', h3, by rw [he]; exact h4, h5, h6, h7, h8, by rw [he]; exact h9, h10⟩
theorem vx_L.kept {C n d : String} {A : Nat → Prop} {U : State} {H H1 : Heap} (h : vx_L C n d A U H) (hq : ∀ a : Nat, a < H.size → ¬ A a → H1[a]? = H[a]?) : vx_L C n d A U H1 := by
  obtain ⟨c, k, i, f, a, cell, h1, h2, h3, h4, h5, h6, h7, h8, h9, h10⟩ := h
  exact ⟨c, k, i, f, a, cell, h1, h2, h3, h4, by rw [hq a (Array.getElem?_eq_some_iff.mp h5).1 h10]; exact h5, h6, h7, h8, h9, h10⟩
theorem vx_L.narrow {C n d : String} {A B : Nat → Prop} {U : State} {H : Heap} (h : vx_L C n d A U H) (hAB : ∀ q, B q → A q) : vx_L C n d B U H := by
  obtain ⟨c, k, i, f, a, cell, h1, h2, h3, h4, h5, h6, h7, h8, h9, h10⟩ := h
  exact ⟨c, k, i, f, a, cell, h1, h2, h3, h4, h5, h6, h7, h8, h9, fun z => h10 (hAB _ z)⟩
theorem vx_L.word {C n d : String} {A : Nat → Prop} {s : State} {args : Array Value} (h : vx_L C n d A s s.heap) : (Cond.laysStatic C n d).before args s = true := by
  obtain ⟨c, k, i, f, a, cell, h1, h2, h3, h4, h5, h6, h7, h8, h9, -⟩ := h
  show (Cond.laysStatic C n d).holds args s none s [] = true
  exact Cond.laysStatic_of h1 h2 h3 h4 h5 h6 h7 h8 h9
/-- .. and what it holds: null or some reference -/
def vx_Zq (C n d : String) (A : Nat → Prop) (U : State) (H : Heap) : Prop := va_Zq C n d A U H ∧ vx_L C n d A U H
theorem vx_Zq.moved {C n d : String} {A : Nat → Prop} {u U : State} {H : Heap} (hvm : u.vm.Alike U.vm) (h : vx_Zq C n d A u H) : vx_Zq C n d A U H := ⟨va_Zq.moved hvm h.1, vx_L.moved hvm h.2⟩
theorem vx_Zq.kept {C n d : String} {A : Nat → Prop} {U : State} {H H1 : Heap} (h : vx_Zq C n d A U H) (hq : ∀ a : Nat, a < H.size → ¬ A a → H1[a]? = H[a]?) : vx_Zq C n d A U H1 := ⟨va_Zq.kept h.1 hq, vx_L.kept h.2 hq⟩
theorem vx_Zq.narrow {C n d : String} {A B : Nat → Prop} {U : State} {H : Heap} (h : vx_Zq C n d A U H) (hAB : ∀ q, B q → A q) : vx_Zq C n d B U H := ⟨va_Zq.narrow h.1 hAB, vx_L.narrow h.2 hAB⟩
theorem vx_Zqof {args : Array Value} {s : State} {C n d : String} {A : Nat → Prop} (hl : (Cond.laysStatic C n d).before args s = true) (hini : (Cond.initialized C).before args s = true) (h : (Cond.isRef (.static C n d)).before args s = true) (hA : ∀ a : Nat, a < s.heap.size → ¬ A a) : vx_Zq C n d A s s.heap := by
  refine ⟨va_Zqof hl hini h hA, ?_⟩
  obtain ⟨c, k, i, f, a, cell, h1, h2, h3, h4, h5, h6, h7, h8, h9⟩ := Cond.laysStatic_spec hl
  exact ⟨c, k, i, f, a, cell, h1, h2, h3, h4, h5, h6, h7, h8, h9, hA a (Array.getElem?_eq_some_iff.mp h5).1⟩
theorem vx_isRef {C n d : String} {v : Value} {A : Nat → Prop} {s : State} {args : Array Value} (h : va_Z C n d v A s s.heap) (hv : v.isRef = true) : (Cond.isRef (.static C n d)).before args s = true := by
  obtain ⟨cf, kf, fi, f, a, cell, h1, h2, h3, h4, h5, h6, h7, -⟩ := h
  have he : (Term.static C n d).eval args s none [] s = some v := by
    simp [Term.eval, State.fieldNamed?, h1, h2, h4, h5, h6, h7]
  simp only [Cond.before, Cond.holds, Cond.value, he]
  cases v <;> simp_all [Value.isRef]
theorem vx_isRefq {C n d : String} {A : Nat → Prop} {s : State} {args : Array Value} (h : va_Zq C n d A s s.heap) : (Cond.isRef (.static C n d)).before args s = true := by
  rcases h with h | ⟨t, h⟩
  · exact vx_isRef h rfl
  · exact vx_isRef h rfl
/-- the same frame, seen from here: as if the method were called anew in this heap -/
theorem vx_rebase {T : State} (X : Stand p l e R s m args below meth c T locs cells slots) {R' : Room} (hf : R'.frames ≤ R.frames) (hl : R'.locals ≤ R.locals) (hc : cells + R'.cells ≤ R.cells) (hs : slots + R'.slots ≤ R.slots) :
    Stand p l e R' ((T.setVm s.vm).setFrames (.invoking m args :: below)) m args below meth c T [] 0 0 := by
  have htop : (T.setVm s.vm).topJava?.isSome := X.here.top
  have hF : ((T.setVm s.vm).setFrames (.invoking m args :: below)).frames = .invoking m args :: below := State.frames_setFrames _ (State.cur_lt_of_top htop)
  obtain ⟨g₀, hg0⟩ := Option.isSome_iff_exists.mp htop
  obtain ⟨r, hr⟩ := State.topJava?_eq_some.mp hg0
  have hl9 : e.platform.stackLimits (T.setVm s.vm).me = e.platform.stackLimits s.me := X.limits
  have hb9 : (T.setVm s.vm).me.stackBytes = s.me.stackBytes := X.bytes
  refine ⟨X.admits, X.cas, X.clock, hF, ?_, X.hears, X.method, X.code, X.here, X.tail, X.warmed, ?_, ?_, ?_⟩
  · have h := X.room
    have hU : ((T.setVm s.vm).setFrames (.invoking m args :: below)).localsInUse = s.localsInUse := by
      rw [State.localsInUse_invoking hF (meth := meth) (c := c) X.method X.code, State.localsInUse_invoking X.frames X.method X.code]
    simp only [State.hasRoom, Bool.and_eq_true, decide_eq_true_eq] at h ⊢
    obtain ⟨⟨⟨⟨h1, h2, h3, h4, h5, h6⟩, h7⟩, h8⟩, h9⟩ := h
    rw [X.frames, List.length_cons] at h2 h3
    have q1 := X.heapSize
    have q2 := X.used
    simp only [hF, hU, List.length_cons, State.stackLimits_setFrames, State.stackBytes_setFrames, hl9, hb9]
    refine ⟨⟨⟨⟨by omega, by omega, by omega, by omega, by omega, h6⟩, ?_⟩, ?_⟩, X.book⟩
    · show T.heap.size + R'.cells ≤ e.platform.maxCells
      omega
    · show T.slotsUsed + R'.slots ≤ e.platform.maxSlots
      omega
  · rw [State.stackLimits_setFrames]; rfl
  · rw [State.stackBytes_setFrames]; rfl
  · refine ⟨?_, Nat.le_refl _, Nat.le_refl _, ?_, ?_, fun a c9 h9 => ⟨c9, h9, rfl, rfl, fun _ _ => rfl⟩⟩
    · obtain ⟨t, ht, -⟩ := State.frames_cons hr
      show T.setVm s.vm = { ((T.setVm s.vm).setFrames (.invoking m args :: below)).setFrames (T.setVm s.vm).frames with heap := T.heap, slotsUsed := T.slotsUsed }
      rw [State.setFrames_setFrames, State.setFrames_self ht]
      rfl
    · show T.slotsUsed = T.slotsUsed + ((T.heap.toList.drop T.heap.size).map (·.slots.size)).sum
      rw [List.drop_eq_nil_of_le (Nat.le_of_eq Array.length_toList)]
      rfl
    · show ((T.heap.toList.drop T.heap.size).map (·.slots.size)).sum ≤ 0
      rw [List.drop_eq_nil_of_le (Nat.le_of_eq Array.length_toList)]
      exact Nat.le_refl _
/-- 'throw new E()': new; dup; invokespecial; athrow -/
theorem vx_throw0 {cc : ByteArray} {pc : Nat} (hexec : p.tables.exec = Jvm.exec) (hb : c.code = cc) (hl : l.stackTraces = false) {own cls : String} {names : List String} {ik ic mc ms : Nat} {A : Nat → Prop}
    (hown : s.vm.findClass own = some m.cls) (hcls : Bundle.fit cls = true) (hnames : ∀ n ∈ names, Bundle.fit n = true)
    (hk : (Cond.classLink own ik cls).before args s = true) (hini : (Cond.initialized cls).before args s = true) (hat : ∀ w ∈ vx_at0 own ic cls names, w.before args s = true)
    (hgood : ∀ w ∈ Cond.classLink own ik cls :: Cond.initialized cls :: vx_at0 own ic cls names, vx_ot w = true)
    (hU : vx_Zq Bundle.tN "UNASSIGNED_STACK" Bundle.steD A s s.heap) (hN : vx_Zq Bundle.tN "SUPPRESSED_SENTINEL" Bundle.listD A s s.heap) (hS : va_S A s.heap H locs) (hsize : ls.size = c.maxLocals)
    (d0 : decode cc pc = .ok (.new ik, 3)) (d3 : decode cc (pc + 3) = .ok (.dup, 1)) (d4 : decode cc (pc + 4) = .ok (.invokespecial ic, 3)) (d7 : decode cc (pc + 7) = .ok (.athrow, 1))
    (hout : ∀ x ∈ c.exceptionTable.toList, covers x (pc + 7) = false)
    (hRframes : names.length + 3 < R.frames) (hRlocals : (rest.map fun v => v.category).sum + (13 * (names.length + 1) + 42) ≤ R.locals) (hRcells : cells + 1 ≤ R.cells) (hRslots : slots + 6 ≤ R.slots) (hlocks : meth.locks = false)
    (hx : ∀ t : State, s.vm.Alike t.vm → H.size ≤ t.heap.size → (∀ q : Nat, q < H.size → t.heap[q]? = H[q]?) → XC cls s t)
    (hf : ∀ z ∈ locs, free z.base) (hc : cells + 1 ≤ mc) (hs : slots + 6 ≤ ms) :
    W p l e R s m args below meth c H locs cells slots (vx_MQ below Qc XC args s mc ms free) (F0 m pc ls rest) := by
  intro T hT X
  have htr : e.platform.stackTraces = false := (show e.platform.stackTraces = l.stackTraces by rw [X.admits.platform]).trans hl
  have Y := vx_rebase X (R' := { frames := R.frames, locals := R.locals, cells := 1, slots := 6 }) (Nat.le_refl _) (Nat.le_refl _) hRcells hRslots
  obtain ⟨s', hA⟩ : ∃ z, z = (T.setVm s.vm).setFrames (.invoking m args :: below) := ⟨_, rfl⟩
  rw [← hA] at Y
  have hvm : s'.vm = s.vm := by rw [hA]; rfl
  have hhp : s'.heap = H := by rw [hA]; exact hT
  have hW0 : s.WarmedH s'.vm := by rw [hvm]; exact State.WarmedH.refl s
  have hat' : ∀ w ∈ vx_at0 own ic cls names, w.before args s' = true := fun w hw => vx_ot_at hW0 hvm.symm (hgood w (List.mem_cons_of_mem _ (List.mem_cons_of_mem _ hw))) (hat w hw)
  have hk' : (Cond.classLink own ik cls).before args s' = true := vx_ot_at hW0 hvm.symm (hgood _ List.mem_cons_self) hk
  have hini' : (Cond.initialized cls).before args s' = true := vx_ot_at hW0 hvm.symm (hgood _ (List.mem_cons_of_mem _ List.mem_cons_self)) hini
  have hU' : vx_Zq Bundle.tN "UNASSIGNED_STACK" Bundle.steD A s' s'.heap := by rw [hhp]; exact vx_Zq.moved hW0.alike (hU.kept hS.2.1)
  have hN' : vx_Zq Bundle.tN "SUPPRESSED_SENTINEL" Bundle.listD A s' s'.heap := by rw [hhp]; exact vx_Zq.moved hW0.alike (hN.kept hS.2.1)
  have h : ∀ w ∈ Bundle.ownAtoms0 own ic cls names, w.before args s' = true := vx_own hat' (vx_isRefq hU'.1) (vx_isRefq hN'.1) hU'.2.word hN'.2.word
  have hown' : s'.vm.findClass own = some m.cls := by rw [hvm]; exact hown
  have hins : (Cond.instantiable cls 6).before args s' = true := h _ (by simp [Bundle.ownAtoms0])
  obtain ⟨vm₁, cX, kX, hfX, hkX, -, -, X₁, st1⟩ := Y.newCold hexec (own := own) (C := cls) (index := ik) (n := 6) hown' hk' hins hini'
    (g := F0 m pc ls rest) rfl (by rw [hb]; exact d0) (Nat.le_refl _) (Nat.le_refl _)
  generalize hT1 : (T.setVm vm₁).pushCell { cls := cX, slots := kX.instanceTypes.map defaultValue, vm := .none } = T1 at X₁ st1
  have hcat : (Value.ref T.heap.size).category = 1 := rfl
  have hcellA : T1.heap[T.heap.size]? = some (freshCell cX kX) := by rw [← hT1]; exact State.heap_pushCell_size _ _
  have d3' : decode c.code (pc + 3) = .ok (.dup, 1) := by rw [hb]; exact d3
  obtain ⟨U, hsteps, hrun, hend, hW, hsame, ce, hce, hO⟩ := X₁.ctorThrow0 hexec htr (own := own) (cls := cls) (names := names) (ic := ic) hown' hcls hnames h (fun x hx => nomatch hx) hfX hkX hcellA (by rw [hhp, hT]; exact Nat.le_refl _)
    (g := { method := m, pc := pc + 4, locals := ls, stack := .ref T.heap.size :: .ref T.heap.size :: rest, locked := none }) rfl hsize rfl rfl (rest := rest) rfl
    (by rw [hb]; exact d4) (by rw [hb]; exact d7) hout hRframes (by simp only [List.map_cons, List.sum_cons, hcat]; omega) hlocks
  obtain ⟨f1, f2⟩ := vx_frame hsame
  rw [hhp] at f1 f2
  have hWs : s.WarmedH U.vm := State.WarmedH.trans hW0 hW
  have hcl : s.vm.findClass cls = some ce.cls := by
    have h9 := hO.cls
    rw [hvm] at h9
    exact h9
  have hall : s.sameButNew ({ U with vm := s.vm } : State) locs mc ms := by
    subst hA
    obtain ⟨e1, e2⟩ := hsame
    rw [State.setFrames_setFrames] at e1
    have h2 : (T.setVm s.vm).sameButNew ({ U with vm := s.vm } : State) [] (0 + 1) (0 + 6) := ⟨e1, e2⟩
    have h3 := X.same.trans h2
    rw [List.append_nil] at h3
    exact h3.mono hc hs
  refine ⟨U, ?_, .threw T.heap.size, hrun, hend, Or.inr ⟨T.heap.size, rfl, cls, ce, locs, hx U hWs.alike f1 (fun q hq => f2 q hq (fun z hz => nomatch hz)), hce, hO.vm, hcl, hWs, hall, hf⟩⟩
  refine st1 _ ?_
  show Steps p.tables e below (T1.setTop { method := m, pc := pc + 3, locals := ls, stack := .ref T.heap.size :: rest, locked := none }) _
  jvm_step X₁.here [X₁.here.top, hexec, d3', Value.category]
  exact hsteps
/-- 'throw new E("text")': new; dup; ldc; invokespecial; athrow -/
theorem vx_throwS {cc : ByteArray} {pc : Nat} (hexec : p.tables.exec = Jvm.exec) (hb : c.code = cc) (hl : l.stackTraces = false) {own cls text : String} {names : List String} {ik is ic mc ms sa : Nat} {A : Nat → Prop}
    (hown : s.vm.findClass own = some m.cls) (hcls : Bundle.fit cls = true) (hnames : ∀ n ∈ names, Bundle.fit n = true)
    (hk : (Cond.classLink own ik cls).before args s = true) (hini : (Cond.initialized cls).before args s = true) (hstr : vk_R own is text sa s) (hat : ∀ w ∈ vx_atS own ic cls names, w.before args s = true)
    (hgood : ∀ w ∈ Cond.classLink own ik cls :: Cond.initialized cls :: vx_atS own ic cls names, vx_ot w = true)
    (hU : vx_Zq Bundle.tN "UNASSIGNED_STACK" Bundle.steD A s s.heap) (hN : vx_Zq Bundle.tN "SUPPRESSED_SENTINEL" Bundle.listD A s s.heap) (hS : va_S A s.heap H locs) (hsize : ls.size = c.maxLocals)
    (d0 : decode cc pc = .ok (.new ik, 3)) (d3 : decode cc (pc + 3) = .ok (.dup, 1)) (d4 : decode cc (pc + 4) = .ok (.ldc is, 2)) (d6 : decode cc (pc + 6) = .ok (.invokespecial ic, 3)) (d9 : decode cc (pc + 9) = .ok (.athrow, 1))
    (hout : ∀ x ∈ c.exceptionTable.toList, covers x (pc + 9) = false)
    (hRframes : names.length + 3 < R.frames) (hRlocals : (rest.map fun v => v.category).sum + (13 * (names.length + 1) + 43) ≤ R.locals) (hRcells : cells + 1 ≤ R.cells) (hRslots : slots + 6 ≤ R.slots) (hlocks : meth.locks = false)
    (hx : ∀ t : State, s.vm.Alike t.vm → H.size ≤ t.heap.size → (∀ q : Nat, q < H.size → t.heap[q]? = H[q]?) → XC cls s t)
    (hf : ∀ z ∈ locs, free z.base) (hc : cells + 1 ≤ mc) (hs : slots + 6 ≤ ms) :
    W p l e R s m args below meth c H locs cells slots (vx_MQ below Qc XC args s mc ms free) (F0 m pc ls rest) := by
  intro T hT X
  have htr : e.platform.stackTraces = false := (show e.platform.stackTraces = l.stackTraces by rw [X.admits.platform]).trans hl
  have Y := vx_rebase X (R' := { frames := R.frames, locals := R.locals, cells := 1, slots := 6 }) (Nat.le_refl _) (Nat.le_refl _) hRcells hRslots
  obtain ⟨s', hA⟩ : ∃ z, z = (T.setVm s.vm).setFrames (.invoking m args :: below) := ⟨_, rfl⟩
  rw [← hA] at Y
  have hvm : s'.vm = s.vm := by rw [hA]; rfl
  have hhp : s'.heap = H := by rw [hA]; exact hT
  have hW0 : s.WarmedH s'.vm := by rw [hvm]; exact State.WarmedH.refl s
  have hat' : ∀ w ∈ vx_atS own ic cls names, w.before args s' = true := fun w hw => vx_ot_at hW0 hvm.symm (hgood w (List.mem_cons_of_mem _ (List.mem_cons_of_mem _ hw))) (hat w hw)
  have hk' : (Cond.classLink own ik cls).before args s' = true := vx_ot_at hW0 hvm.symm (hgood _ List.mem_cons_self) hk
  have hini' : (Cond.initialized cls).before args s' = true := vx_ot_at hW0 hvm.symm (hgood _ (List.mem_cons_of_mem _ List.mem_cons_self)) hini
  have hU' : vx_Zq Bundle.tN "UNASSIGNED_STACK" Bundle.steD A s' s'.heap := by rw [hhp]; exact vx_Zq.moved hW0.alike (hU.kept hS.2.1)
  have hN' : vx_Zq Bundle.tN "SUPPRESSED_SENTINEL" Bundle.listD A s' s'.heap := by rw [hhp]; exact vx_Zq.moved hW0.alike (hN.kept hS.2.1)
  have h : ∀ w ∈ Bundle.ownAtoms own ic cls names, w.before args s' = true := vx_own hat' (vx_isRefq hU'.1) (vx_isRefq hN'.1) hU'.2.word hN'.2.word
  have hown' : s'.vm.findClass own = some m.cls := by rw [hvm]; exact hown
  have hins : (Cond.instantiable cls 6).before args s' = true := h _ (by simp [Bundle.ownAtoms])
  obtain ⟨vm₁, cX, kX, hfX, hkX, -, -, X₁, st1⟩ := Y.newCold hexec (own := own) (C := cls) (index := ik) (n := 6) hown' hk' hins hini'
    (g := F0 m pc ls rest) rfl (by rw [hb]; exact d0) (Nat.le_refl _) (Nat.le_refl _)
  generalize hT1 : (T.setVm vm₁).pushCell { cls := cX, slots := kX.instanceTypes.map defaultValue, vm := .none } = T1 at X₁ st1
  have hcat : (Value.ref T.heap.size).category = 1 := rfl
  have hcellA : T1.heap[T.heap.size]? = some (freshCell cX kX) := by rw [← hT1]; exact State.heap_pushCell_size _ _
  have d3' : decode c.code (pc + 3) = .ok (.dup, 1) := by rw [hb]; exact d3
  have d4' : decode c.code (pc + 4) = .ok (.ldc is, 2) := by rw [hb]; exact d4
  have hstr' : vk_R own is text sa s' := vk_R.warm hW0 hstr
  obtain ⟨U, hsteps, hrun, hend, hW, hsame, ce, hce, hO⟩ := X₁.ctorThrowS hexec htr (own := own) (cls := cls) (names := names) (ic := ic) hown' hcls hnames h (fun x hx => nomatch hx) hfX hkX hcellA (by rw [hhp, hT]; exact Nat.le_refl _) (msg := .ref sa) rfl
    (g := { method := m, pc := pc + 6, locals := ls, stack := .ref sa :: .ref T.heap.size :: .ref T.heap.size :: rest, locked := none }) rfl hsize rfl rfl (rest := rest) rfl
    (by rw [hb]; exact d6) (by rw [hb]; exact d9) hout hRframes (by simp only [List.map_cons, List.sum_cons, hcat]; omega) hlocks
  obtain ⟨f1, f2⟩ := vx_frame hsame
  rw [hhp] at f1 f2
  have hWs : s.WarmedH U.vm := State.WarmedH.trans hW0 hW
  have hcl : s.vm.findClass cls = some ce.cls := by
    have h9 := hO.cls
    rw [hvm] at h9
    exact h9
  have hall : s.sameButNew ({ U with vm := s.vm } : State) locs mc ms := by
    subst hA
    obtain ⟨e1, e2⟩ := hsame
    rw [State.setFrames_setFrames] at e1
    have h2 : (T.setVm s.vm).sameButNew ({ U with vm := s.vm } : State) [] (0 + 1) (0 + 6) := ⟨e1, e2⟩
    have h3 := X.same.trans h2
    rw [List.append_nil] at h3
    exact h3.mono hc hs
  refine ⟨U, ?_, .threw T.heap.size, hrun, hend, Or.inr ⟨T.heap.size, rfl, cls, ce, locs, hx U hWs.alike f1 (fun q hq => f2 q hq (fun z hz => nomatch hz)), hce, hO.vm, hcl, hWs, hall, hf⟩⟩
  refine st1 _ ?_
  show Steps p.tables e below (T1.setTop { method := m, pc := pc + 3, locals := ls, stack := .ref T.heap.size :: rest, locked := none }) _
  jvm_step X₁.here [X₁.here.top, hexec, d3', Value.category]
  exact X₁.ldcString hexec (own := own) (text := text) (index := is) (a := sa) hown' hstr'.1 hstr'.2
    (g := { method := m, pc := pc + 4, locals := ls, stack := .ref T.heap.size :: .ref T.heap.size :: rest, locked := none }) rfl d4' _ hsteps
/-- 'throw new E("text")', the text by a wide index -/
theorem vx_throwSW {cc : ByteArray} {pc : Nat} (hexec : p.tables.exec = Jvm.exec) (hb : c.code = cc) (hl : l.stackTraces = false) {own cls text : String} {names : List String} {ik is ic mc ms sa : Nat} {A : Nat → Prop}
    (hown : s.vm.findClass own = some m.cls) (hcls : Bundle.fit cls = true) (hnames : ∀ n ∈ names, Bundle.fit n = true)
    (hk : (Cond.classLink own ik cls).before args s = true) (hini : (Cond.initialized cls).before args s = true) (hstr : vk_R own is text sa s) (hat : ∀ w ∈ vx_atS own ic cls names, w.before args s = true)
    (hgood : ∀ w ∈ Cond.classLink own ik cls :: Cond.initialized cls :: vx_atS own ic cls names, vx_ot w = true)
    (hU : vx_Zq Bundle.tN "UNASSIGNED_STACK" Bundle.steD A s s.heap) (hN : vx_Zq Bundle.tN "SUPPRESSED_SENTINEL" Bundle.listD A s s.heap) (hS : va_S A s.heap H locs) (hsize : ls.size = c.maxLocals)
    (d0 : decode cc pc = .ok (.new ik, 3)) (d3 : decode cc (pc + 3) = .ok (.dup, 1)) (d4 : decode cc (pc + 4) = .ok (.ldc_w is, 3)) (d7 : decode cc (pc + 7) = .ok (.invokespecial ic, 3)) (d10 : decode cc (pc + 10) = .ok (.athrow, 1))
    (hout : ∀ x ∈ c.exceptionTable.toList, covers x (pc + 10) = false)
    (hRframes : names.length + 3 < R.frames) (hRlocals : (rest.map fun v => v.category).sum + (13 * (names.length + 1) + 43) ≤ R.locals) (hRcells : cells + 1 ≤ R.cells) (hRslots : slots + 6 ≤ R.slots) (hlocks : meth.locks = false)
    (hx : ∀ t : State, s.vm.Alike t.vm → H.size ≤ t.heap.size → (∀ q : Nat, q < H.size → t.heap[q]? = H[q]?) → XC cls s t)
    (hf : ∀ z ∈ locs, free z.base) (hc : cells + 1 ≤ mc) (hs : slots + 6 ≤ ms) :
    W p l e R s m args below meth c H locs cells slots (vx_MQ below Qc XC args s mc ms free) (F0 m pc ls rest) := by
  intro T hT X
  have htr : e.platform.stackTraces = false := (show e.platform.stackTraces = l.stackTraces by rw [X.admits.platform]).trans hl
  have Y := vx_rebase X (R' := { frames := R.frames, locals := R.locals, cells := 1, slots := 6 }) (Nat.le_refl _) (Nat.le_refl _) hRcells hRslots
  obtain ⟨s', hA⟩ : ∃ z, z = (T.setVm s.vm).setFrames (.invoking m args :: below) := ⟨_, rfl⟩
  rw [← hA] at Y
  have hvm : s'.vm = s.vm := by rw [hA]; rfl
  have hhp : s'.heap = H := by rw [hA]; exact hT
  have hW0 : s.WarmedH s'.vm := by rw [hvm]; exact State.WarmedH.refl s
  have hat' : ∀ w ∈ vx_atS own ic cls names, w.before args s' = true := fun w hw => vx_ot_at hW0 hvm.symm (hgood w (List.mem_cons_of_mem _ (List.mem_cons_of_mem _ hw))) (hat w hw)
  have hk' : (Cond.classLink own ik cls).before args s' = true := vx_ot_at hW0 hvm.symm (hgood _ List.mem_cons_self) hk
  have hini' : (Cond.initialized cls).before args s' = true := vx_ot_at hW0 hvm.symm (hgood _ (List.mem_cons_of_mem _ List.mem_cons_self)) hini
  have hU' : vx_Zq Bundle.tN "UNASSIGNED_STACK" Bundle.steD A s' s'.heap := by rw [hhp]; exact vx_Zq.moved hW0.alike (hU.kept hS.2.1)
  have hN' : vx_Zq Bundle.tN "SUPPRESSED_SENTINEL" Bundle.listD A s' s'.heap := by rw [hhp]; exact vx_Zq.moved hW0.alike (hN.kept hS.2.1)
  have h : ∀ w ∈ Bundle.ownAtoms own ic cls names, w.before args s' = true := vx_own hat' (vx_isRefq hU'.1) (vx_isRefq hN'.1) hU'.2.word hN'.2.word
  have hown' : s'.vm.findClass own = some m.cls := by rw [hvm]; exact hown
  have hins : (Cond.instantiable cls 6).before args s' = true := h _ (by simp [Bundle.ownAtoms])
  obtain ⟨vm₁, cX, kX, hfX, hkX, -, -, X₁, st1⟩ := Y.newCold hexec (own := own) (C := cls) (index := ik) (n := 6) hown' hk' hins hini'
    (g := F0 m pc ls rest) rfl (by rw [hb]; exact d0) (Nat.le_refl _) (Nat.le_refl _)
  generalize hT1 : (T.setVm vm₁).pushCell { cls := cX, slots := kX.instanceTypes.map defaultValue, vm := .none } = T1 at X₁ st1
  have hcat : (Value.ref T.heap.size).category = 1 := rfl
  have hcellA : T1.heap[T.heap.size]? = some (freshCell cX kX) := by rw [← hT1]; exact State.heap_pushCell_size _ _
  have d3' : decode c.code (pc + 3) = .ok (.dup, 1) := by rw [hb]; exact d3
  have d4' : decode c.code (pc + 4) = .ok (.ldc_w is, 3) := by rw [hb]; exact d4
  have hstr' : vk_R own is text sa s' := vk_R.warm hW0 hstr
  obtain ⟨U, hsteps, hrun, hend, hW, hsame, ce, hce, hO⟩ := X₁.ctorThrowS hexec htr (own := own) (cls := cls) (names := names) (ic := ic) hown' hcls hnames h (fun x hx => nomatch hx) hfX hkX hcellA (by rw [hhp, hT]; exact Nat.le_refl _) (msg := .ref sa) rfl
    (g := { method := m, pc := pc + 7, locals := ls, stack := .ref sa :: .ref T.heap.size :: .ref T.heap.size :: rest, locked := none }) rfl hsize rfl rfl (rest := rest) rfl
    (by rw [hb]; exact d7) (by rw [hb]; exact d10) hout hRframes (by simp only [List.map_cons, List.sum_cons, hcat]; omega) hlocks
  obtain ⟨f1, f2⟩ := vx_frame hsame
  rw [hhp] at f1 f2
  have hWs : s.WarmedH U.vm := State.WarmedH.trans hW0 hW
  have hcl : s.vm.findClass cls = some ce.cls := by
    have h9 := hO.cls
    rw [hvm] at h9
    exact h9
  have hall : s.sameButNew ({ U with vm := s.vm } : State) locs mc ms := by
    subst hA
    obtain ⟨e1, e2⟩ := hsame
    rw [State.setFrames_setFrames] at e1
    have h2 : (T.setVm s.vm).sameButNew ({ U with vm := s.vm } : State) [] (0 + 1) (0 + 6) := ⟨e1, e2⟩
    have h3 := X.same.trans h2
    rw [List.append_nil] at h3
    exact h3.mono hc hs
  refine ⟨U, ?_, .threw T.heap.size, hrun, hend, Or.inr ⟨T.heap.size, rfl, cls, ce, locs, hx U hWs.alike f1 (fun q hq => f2 q hq (fun z hz => nomatch hz)), hce, hO.vm, hcl, hWs, hall, hf⟩⟩
  refine st1 _ ?_
  show Steps p.tables e below (T1.setTop { method := m, pc := pc + 3, locals := ls, stack := .ref T.heap.size :: rest, locked := none }) _
  jvm_step X₁.here [X₁.here.top, hexec, d3', Value.category]
  exact X₁.ldcStringW hexec (own := own) (text := text) (index := is) (a := sa) hown' hstr'.1 hstr'.2
    (g := { method := m, pc := pc + 4, locals := ls, stack := .ref T.heap.size :: .ref T.heap.size :: rest, locked := none }) rfl d4' _ hsteps
end Ends
section Bodies
variable {l : Launch}
theorem vx_ofW {y : MethodName} {ws ws' : List Cond} {rm : Room} {Pc : Array Value → State → Prop} {Qc : Array Value → State → Outcome → State → Prop} {XC : String → State → State → Prop} {mc ms : Nat} {free : Addr → Prop} {cc : ByteArray} {maxL : Nat} {ret : Option FieldType}
    (hy : plainName y.cls = true) (hw : ws = Cond.code y cc maxL ret :: ws')
    (body : ∀ p e s m args below meth c s₁, BodyLoose p l y (headSpec ws rm) cc maxL ret e s m args below meth c s₁ → c.maxLocals = maxL → (∀ x ∈ c.exceptionTable.toList, False) → Pc args s →
      W p l e (headSpec ws rm).room s m args below meth c s.heap [] 0 0 (vx_MQ below Qc XC args s mc ms free) (entryFrame m args maxL)) : vx_Met l y ws rm Pc Qc XC mc ms free := by
  refine MetFree.of_bodyS (code := cc) (maxLocals := maxL) (ret := ret) hy ?_ ?_
  · intro args s m h hn
    obtain ⟨meth, c, h1, h2, h3, h4, h5, h6, -, -⟩ := Cond.code_spec hn (atoms_spec (ws := ws) h _ (by rw [hw]; exact List.mem_cons_self))
    exact ⟨meth, c, h1, h2, h3, h4, h5, h6⟩
  · intro p e s m args below meth c s₁ B hml hP _
    have hh0 : s₁.heap = s.heap := by rw [B.state]; rfl
    have ht : ∀ x ∈ c.exceptionTable.toList, False := by
      obtain ⟨meth9, c9, h1, h2, -, -, -, -, h7, -⟩ := Cond.code_spec B.named (atoms_spec (ws := ws) B.pre _ (by rw [hw]; exact List.mem_cons_self))
      cases Option.some.inj (h1.symm.trans B.method)
      cases Option.some.inj (h2.symm.trans (Stand.of_body B).code)
      intro x hx
      rw [Array.isEmpty_iff.mp h7] at hx
      cases hx
    obtain ⟨t, a1, o, b1, b2, b3⟩ := body p e s m args below meth c s₁ B hml ht hP s₁ hh0 (Stand.of_body B)
    exact ⟨t, o, a1, b1, b2, b3⟩
/-- the table of a body with handlers -/
theorem vx_table {p : Program} {x y : MethodName} {S : Spec} {cc bytes : ByteArray} {maxL maxL' : Nat} {ret ret' : Option FieldType} {e : Env} {s s₁ : State} {m : MethodId} {args : Array Value} {below : List Frame} {meth : Method} {c : Code} {hh : List (Nat × Nat × Nat × Nat)}
    (B : BodyLoose p l y S cc maxL ret e s m args below meth c s₁) (h : (Cond.codeWith y bytes maxL' ret' hh).before args s = true) : c.exceptionTable.toList = tableOf hh := by
  obtain ⟨m9, meth9, c9, hn9, h1, h2, -, -, h6, -⟩ := Cond.codeWith_spec h
  cases Option.some.inj (hn9.symm.trans B.named)
  cases Option.some.inj (h1.symm.trans B.method)
  cases Option.some.inj (h2.symm.trans (Stand.of_body B).code)
  rw [← h6, table_eq]
end Bodies
end VXA
/-! ===== END ===== -/
/-! ===== BEGIN a static call of a method with an exception table ===== -/
section VXS
variable {p : Program} {l : Launch} {e : Env} {R : Room} {s : State} {m : MethodId} {args : Array Value} {below : List Frame} {meth : Method} {c : Code} {T : State} {H : Heap} {locs : List Loc} {cells slots : Nat}
abbrev vx_CSW (R : Room) (s : State) (args : Array Value) (own : String) (index : Nat) (y : MethodName) (bytes : ByteArray) (maxL : Nat) (ret : Option FieldType) (hh : List (Nat × Nat × Nat × Nat)) (ws : List Cond) (rm : Room) (mc ms n : Nat) : Prop :=
  (rm.cells = mc ∧ rm.slots = ms ∧ rm.frames + 1 ≤ R.frames ∧ 8 + (maxL + 11) + rm.locals ≤ R.locals ∧ (∀ w ∈ ws, ∀ (a' : Array Value) (U : State), s.WarmedH U.vm → w.before a' U = true) ∧ Cond.codeWith y bytes maxL ret hh ∈ ws) ∧
  (Cond.codeWith y bytes maxL ret hh).before args s = true ∧ (Cond.initialized y.cls).before args s = true ∧ (y.cls ≠ "java/lang/invoke/MethodHandle" ∧ y.cls ≠ "java/lang/invoke/VarHandle") ∧
  (∀ sig, parseMethodDescriptor y.desc = some sig → n = sig.parameters.length) ∧ (Cond.methodLink own index y).before args s = true ∧ (Cond.static y).before args s = true
theorem vx_cwSW {own : String} {index maxL mc ms : Nat} {y : MethodName} {bytes : ByteArray} {ret : Option FieldType} {hh : List (Nat × Nat × Nat × Nat)} {Ts ws ws' : List Cond} {rm : Room} (n : Nat) (ht : ∀ w ∈ Ts, w.before args s = true) (hT : GoodIn Ts (va_wsS own index y ws)) (hw : ws = Cond.codeWith y bytes maxL ret hh :: ws') (hrc : rm.cells = mc) (hrs : rm.slots = ms)
    (hd : y.cls ≠ "java/lang/invoke/MethodHandle" ∧ y.cls ≠ "java/lang/invoke/VarHandle" ∧ (parseMethodDescriptor y.desc).map (fun d => d.parameters.length) = some n) (hR : rm.frames + 1 ≤ R.frames ∧ 8 + (maxL + 11) + rm.locals ≤ R.locals) :
    vx_CSW R s args own index y bytes maxL ret hh ws rm mc ms n := by
  have ok : ∀ w ∈ va_wsS own index y ws, w.before args s = true := fun w h => ht w (hT w h).1
  have hG : GoodIn Ts ws := fun w h => hT w (by unfold va_wsS; exact List.mem_append_right _ h)
  have hc : Cond.codeWith y bytes maxL ret hh ∈ ws := by rw [hw]; exact List.mem_cons_self
  refine ⟨⟨hrc, hrs, hR.1, hR.2, pay_in ht hG, hc⟩, ht _ (hG _ hc).1, ok _ (by simp [va_wsS]), ⟨hd.1, hd.2.1⟩, fun sig h => ?_, ok _ (by simp [va_wsS]), ok _ (by simp [va_wsS])⟩
  have h2 := hd.2.2
  rw [h] at h2
  exact (Option.some.inj h2).symm
theorem vx_callSW (X : Stand p l e R s m args below meth c T locs cells slots) (hexec : p.tables.exec = Jvm.exec) {own : String} {index : Nat} {y : MethodName} {bytes : ByteArray} {maxL : Nat} {ret : Option FieldType} {hh : List (Nat × Nat × Nat × Nat)}
    (hown : s.vm.findClass own = some m.cls) (hlink : (Cond.methodLink own index y).before args s = true) (hstat : (Cond.static y).before args s = true) (hinit : (Cond.initialized y.cls).before args s = true)
    (hcode : (Cond.codeWith y bytes maxL ret hh).before args s = true) (hy : y.cls ≠ "java/lang/invoke/MethodHandle" ∧ y.cls ≠ "java/lang/invoke/VarHandle")
    {W9 : Nat} {Pre : Pt → Array Value → Prop} {Post : Pt → Array Value → Option Value → Pt → Prop} (hK : Back l R p e below s args y 3 W9 Pre Post)
    {g : JFrame} (hg : g.method = m) (hsize : g.locals.size = c.maxLocals) {argsL rest : List Value} (hlen : ∀ sig, parseMethodDescriptor y.desc = some sig → argsL.length = sig.parameters.length)
    (hstack : g.stack = argsL.reverse ++ rest) (hW : 2 * g.monitorRoom + (rest.map fun v => v.category).sum ≤ W9) (hdg : decode c.code g.pc = .ok (.invokestatic index, 3))
    (hpre : ∀ vm₁, s.WarmedH vm₁ → Pre ⟨T.setVm vm₁, locs, cells, slots⟩ argsL.toArray) :
    ∃ (v : Option Value) (vm₁ : Vm) (B : Pt), s.WarmedH vm₁ ∧ Stand p l e R s m args below meth c B.U B.locs B.cells B.slots ∧ Post ⟨T.setVm vm₁, locs, cells, slots⟩ argsL.toArray v B ∧
      ∀ target, Steps p.tables e below (B.U.setTop { g with pc := g.pc + 3, stack := v.toList ++ rest }) target → Steps p.tables e below (T.setTop g) target := by
  obtain ⟨mk, methM, cM, hnamed, hmethM, -, -, -, -, -, -, hsigM⟩ := Cond.codeWith_spec hcode
  have hstatic : methM.isStatic = true := Cond.static_spec hnamed hmethM hstat
  obtain ⟨kP, hkP, -⟩ := className_of_methodNamed hnamed
  have hinitP : kP.init = .initialized := Cond.initialized_spec (findClass_of_methodNamed hnamed) hkP hinit
  obtain ⟨vm₁, X₁, hstep₁⟩ := X.invokestatic hexec hown hlink hnamed hmethM hstatic hkP hinitP hy (g := g) hg (argsL := argsL) (rest := rest) (hlen _ hsigM) hstack hdg
  obtain ⟨v, B, X', hpost, hsteps⟩ := hK m meth c ⟨T.setVm vm₁, locs, cells, slots⟩ { g with stack := rest } (.invokestatic index) mk argsL.toArray X₁ hg hsize hdg hW (X₁.named hnamed) (hpre vm₁ X₁.warmed)
  exact ⟨v, vm₁, B, X₁.warmed, X', hpost, fun target h => hstep₁ _ fun acts => by rw [doInvoke_state]; exact hsteps.trans h⟩
theorem vx_runSW {y : MethodName} {bytes cc : ByteArray} {maxL nL mc ms n index : Nat} {ret : Option FieldType} {hh : List (Nat × Nat × Nat × Nat)} {ws : List Cond} {rm : Room} {Pc : Array Value → State → Prop} {Qc : Array Value → State → Outcome → State → Prop} {free : Addr → Prop} {Ts : List Cond} {own : String} {As rest : List Value} {g : JFrame}
    (S : CallFix p m c cc nL s args Ts own) (hM : Met l y ws rm Pc Qc mc ms free) (cw : vx_CSW R s args own index y bytes maxL ret hh ws rm mc ms n) (hp : PreS s H Pc As)
    (hg : g.method = m) (hn : As.length = n) (hsize : g.locals.size = nL) (hstack : g.stack = As.reverse ++ rest) (hW : 2 * g.monitorRoom + (rest.map fun v => v.category).sum ≤ 8) (hdg : decode cc g.pc = .ok (.invokestatic index, 3)) (hf : cells + mc ≤ R.cells ∧ slots + ms ≤ R.slots) :
    va_Run p l e R s m args below meth c H locs cells slots mc ms g rest (Qc As.toArray) (free) := by
  obtain ⟨⟨hrc, hrs, hfr, hlo, hws, hcw⟩, hcode, hini, hy, hlen, hl, hstt⟩ := cw
  have hK : Back l R p e below s args y 3 8 (PreOf R mc ms Pc) (PostOf Qc mc ms free) := va_backW (hh := hh) (bytes := bytes) (maxL := maxL) (ret := ret) hM hp.1 hrc hrs hfr hlo hws hcw (fun a' U hW => word_at hW (Or.inl (by first | rfl | simp [Cond.onTables, Cond.keeps, Cond.steady])) hini)
  obtain ⟨hx, hb, hml, ho, -⟩ := S
  intro T hT X
  obtain ⟨v, vm₁, ⟨U', l2, c2, s2⟩, hW₁, X', ⟨g', mk, t, L, e1, e2, hq, h1, hL, h2, h3⟩, st⟩ := vx_callSW X hx (hh := hh) (bytes := bytes) (maxL := maxL) (ret := ret) ho hl hstt hini hcode hy hK hg (hsize.trans hml.symm) (argsL := As) (rest := rest) (fun sig h => hn.trans (hlen sig h)) hstack hW (by rw [hb]; exact hdg)
    (fun vm₁ hW₁ => ⟨hf.1, hf.2, hp.2 (T.setVm vm₁) hT hW₁⟩)
  dsimp only [Pt.U, Pt.locs, Pt.cells, Pt.slots] at X' e1 e2 h1 h2 h3 st
  subst h1; subst h2; subst h3
  exact ⟨v, (T.setVm vm₁).calling g' mk As.toArray, t, U', L, hT, X', hL, e1, e2, hq, st⟩
/-- not caught here, past rows that name other classes: it goes on to the caller -/
theorem vx_outP {p : Program} {l : Launch} {e : Env} {R : Room} {s : State} {m : MethodId} {args : Array Value} {below : List Frame} {meth : Method} {c : Code} {H : Heap} {locs : List Loc} {cells slots : Nat} {free : Addr → Prop} {ls : Array Slot} {rest : List Value} {Qc : Array Value → State → Outcome → State → Prop} {XC : String → State → State → Prop}
    {pc : Nat} {own E : String} {ce : Cell} {q : Addr} {mc ms : Nat} (hown : s.vm.findClass own = some m.cls) (hlocks : meth.locks = false)
    (hpass : ∀ z ∈ c.exceptionTable.toList, covers z pc = false ∨ (z.catchType ≠ 0 ∧ ∃ nm : String, (Cond.classLink own z.catchType nm).before args s = true ∧ va_Nc E nm s)) (hcell : H[q]? = some ce) (hv : ce.vm = .none) (hcl : s.vm.findClass E = some ce.cls)
    (hx : ∀ t : State, t.heap = H → s.vm.Alike t.vm → XC E s t) (hf : ∀ z ∈ locs, free z.base) (hc : cells ≤ mc) (hs : slots ≤ ms) :
    vx_W p l e R s m args below meth c H locs cells slots (vx_MQ below Qc XC args s mc ms free) (F0 m pc ls rest) q := by
  intro T hT X
  have hpl : e.platform.magicAccessors = ({} : Platform).magicAccessors := by rw [X.admits.platform]
  obtain ⟨vm', hW', X', st⟩ := Jvm.Stand.outThrough X hlocks q (g := F0 m pc ls rest) rfl rfl rfl (cell := ce) (by rw [hT]; exact hcell) (by rw [hv]; rfl)
    (by obtain ⟨k9, h9, -⟩ := Vm.findClass_spec hcl; exact ⟨k9, h9⟩) (fun z hz => by
      rcases hpass z hz with h | ⟨hz0, nm, hl1, hn1⟩
      · exact Or.inl h
      · obtain ⟨c6, hc6, hcl6⟩ := Cond.classLink_spec hown hl1 e.platform hpl
        obtain ⟨a8, b8, h1, h2, h3⟩ := hn1
        cases Option.some.inj (h1.symm.trans hcl)
        cases Option.some.inj (h2.symm.trans hc6)
        exact Or.inr ⟨hz0, _, hcl6, h3⟩)
  obtain ⟨g₀, hfr⟩ := X'.frames_eq
  have hcell9 : ((T.setVm vm').setFrames (.throwing q :: below)).heap[q]? = some ce := by
    show T.heap[q]? = some ce
    rw [hT]; exact hcell
  have hend : Ended ((T.setVm vm').setFrames (.throwing q :: below)) below (.threw q) := State.frames_setFrames _ (State.cur_lt_of_frames hfr)
  refine ⟨(T.setVm vm').setFrames (.throwing q :: below), ?_, .threw q, X'.here.running, hend, Or.inr ⟨q, rfl, E, ce, locs, hx _ hT (X'.ends _).1.alike, hcell9, hv, hcl, (X'.ends _).1, (X'.ends _).2.mono hc hs, hf⟩⟩
  rw [X.pushThrowing_eq]
  exact st
/-- a thing of a world lies in the heap -/
theorem vx_lt {D : va_G} {cl : List vw_C} {ws : va_W} {H1 : Heap} (h : va_P D cl ws H1) {k : Nat} {q : Nat × va_E} (hk : ws[k]? = some q) : q.1 < H1.size := (h k q hk).lt
end VXS
/-! ===== END ===== -/
/-! ===== BEGIN methods with a table of their own: called by a name, returning or throwing ===== -/
section VXH
/-! vx_backW, vx_callVX, vx_callSX, vx_callVW, vx_runVW, vx_runVX, vx_runSX, vx_ofWH follow the same proofs as their sisters above (Free/Laws.lean, Shelf42/LK1.lean); vx_outP calls Shelf42/NT130.lean (outThrough). -/
section
variable {l : Launch} {R : Room} {p : Program} {e : Env} {below : List Frame} {s : State} {sargs : Array Value} {y : MethodName} {len W9 : Nat}
theorem vx_backW {ws : List Cond} {rm : Room} {Pc : Array Value → State → Prop} {Qc : Array Value → State → Outcome → State → Prop} {XC : String → State → State → Prop} {mc ms : Nat} {free : Addr → Prop} {bytes : ByteArray} {maxL : Nat} {ret : Option FieldType} {hh : List (Nat × Nat × Nat × Nat)}
    (hM : vx_Met l y ws rm Pc Qc XC mc ms free) (hblind : FrameBlind Pc) (hrc : rm.cells = mc) (hrs : rm.slots = ms)
    (hframes : rm.frames + 1 ≤ R.frames) (hlocals : W9 + (maxL + 11) + rm.locals ≤ R.locals)
    (hws : ∀ w ∈ ws, ∀ a' U, s.WarmedH U.vm → w.before a' U = true) (hcode : Cond.codeWith y bytes maxL ret hh ∈ ws) (hinit : ∀ a' U, s.WarmedH U.vm → (Cond.initialized y.cls).before a' U = true) :
    vx_Back l R p e below s sargs y len W9 (PreOf R mc ms Pc) (PostOf Qc mc ms free) (vx_Post XC mc ms free) := by
  intro m meth c A g ig mk a X hg hsize hdg hW hn hp
  have h1 : (headSpec ws rm).pre.before a A.U = true := atoms_intro fun w hw => hws w hw _ _ X.warmed
  have h2 : (Cond.codeWith y bytes maxL ret hh).before a A.U = true := hws _ hcode _ _ X.warmed
  have h3 : (Cond.initialized y.cls).before a A.U = true := hinit _ _ X.warmed
  have h4 : A.cells + (headSpec ws rm).room.cells ≤ R.cells := by rw [show (headSpec ws rm).room.cells = mc from hrc]; exact hp.1
  have h5 : A.slots + (headSpec ws rm).room.slots ≤ R.slots := by rw [show (headSpec ws rm).room.slots = ms from hrs]; exact hp.2.1
  have hPc : Pc a (A.U.calling g mk a) := hblind _ _ _ _ hp.2.2
  obtain ⟨U, Ls, c0, s0⟩ := A
  dsimp only [Pt.U, Pt.locs, Pt.cells, Pt.slots] at h1 h2 h3 h4 h5 X hn hPc ⊢
  obtain ⟨m9, methY, cY, hn9, hmY, hcY, -, hlY, -⟩ := Cond.codeWith_spec h2
  cases Option.some.inj (hn9.symm.trans hn)
  obtain ⟨kY, hkY, -⟩ := className_of_methodNamed hn
  have hinitY : kY.init = .initialized := Cond.initialized_spec (findClass_of_methodNamed hn) hkY h3
  have h : At U g.method c below := by rw [hg]; exact X.here
  have hlocals9 : W9 + (maxL + 11) + (headSpec ws rm).room.locals ≤ R.locals := hlocals
  have happ : (headSpec ws rm).appliesLoose y e.platform (U.calling g mk a) = true :=
    Spec.appliesLoose_calling (g := g) h hdg hn hkY hinitY
      (X.room_calling (g := g) (R' := (headSpec ws rm).room) hsize hmY hcY hframes (by rw [hlY]; omega) h4 h5) h1
  obtain ⟨mid, hmid⟩ := h.above
  have hfr : (U.setTop g).frames = (.java g :: mid) ++ below := by rw [State.frames_setTop' g h.top, hmid]; rfl
  obtain ⟨o, s₂, hsteps, -, hend, hq⟩ := Steps.callFree hM p X.admits X.cas X.clock (acts := []) hfr happ hPc trivial
  have hq' : vx_Q Qc XC mc ms free a (U.calling g mk a) o s₂ := hq
  rw [State.frames_setTop' g h.top] at hend
  obtain ⟨g₀, hg0⟩ := Option.isSome_iff_exists.mp h.top
  obtain ⟨r, hr⟩ := State.topJava?_eq_some.mp hg0
  have hr' : (({ U with heap := s₂.heap, slotsUsed := s₂.slotsUsed } : State).setVm s₂.vm).frames = .java g₀ :: r := hr
  rcases hq' with ⟨hqc, L, hfe, hL⟩ | ⟨q, rfl, E, ce, L, hx, hce, hcv, hcl, hW₂, hsm, hL⟩
  · obtain ⟨⟨v, rfl⟩, hW₂, e2, q2, q3, q4, q5, q6⟩ := id hfe
    have e3 : s₂ = ({ (U.calling g mk a).setFrames s₂.frames with heap := s₂.heap, slotsUsed := s₂.slotsUsed } : State).setVm s₂.vm := by
      have : s₂ = ({ s₂ with vm := (U.calling g mk a).vm } : State).setVm s₂.vm := rfl
      rw [e2] at this
      exact this
    obtain ⟨c₂, i₂, len₂, hc₂, hd₂, hf₂⟩ := hend
    have hW' : U.WarmedH s₂.vm := hW₂
    have hcc : c₂ = c := by
      have h1 : s₂.code? g.method = U.code? g.method := by
        rw [State.code?_eq, State.code?_eq, hW'.alike.method?]
      exact Option.some.inj (hc₂.symm.trans (h1.trans h.code))
    subst hcc
    have hlen : len₂ = len := by rw [hdg] at hd₂; cases hd₂; rfl
    subst hlen
    have hs₂ : s₂ = (({ U with heap := s₂.heap, slotsUsed := s₂.slotsUsed } : State).setVm s₂.vm).setTop { g with pc := g.pc + len₂, stack := v.toList ++ g.stack } := by
      refine e3.trans ?_
      rw [hf₂, State.calling_eq h.top, State.setFrames_setFrames, State.setTop_of_frames _ hr', hr]
      rfl
    have hsame : U.sameButNew ({ U with heap := s₂.heap, slotsUsed := s₂.slotsUsed } : State) L mc ms := by
      refine ⟨?_, q2, q3, q4, q5, q6⟩
      obtain ⟨t, ht, -⟩ := State.frames_cons hr
      show ({ U with heap := s₂.heap, slotsUsed := s₂.slotsUsed } : State) = { U.setFrames U.frames with heap := s₂.heap, slotsUsed := s₂.slotsUsed }
      rw [State.setFrames_self ht]
    subst hg
    refine Or.inl ⟨v, ⟨(({ U with heap := s₂.heap, slotsUsed := s₂.slotsUsed } : State).setVm s₂.vm), Ls ++ L, c0 + mc, s0 + ms⟩,
      ⟨X.admits, X.cas, X.clock, X.frames, X.room, X.hears, X.method, X.code, (X.here.setHeapUsed s₂.heap s₂.slotsUsed).setVm hW'.alike, X.tail, State.WarmedH.trans X.warmed hW', X.limits, X.bytes, X.same.trans (hsame.setVm s.vm)⟩,
      ⟨g, mk, s₂, L, rfl, rfl, hqc, rfl, hL, rfl, rfl⟩, ?_⟩
    show Steps p.tables e below _ ((({ U with heap := s₂.heap, slotsUsed := s₂.slotsUsed } : State).setVm s₂.vm).setTop { g with pc := g.pc + len₂, stack := v.toList ++ g.stack })
    rw [← hs₂]
    exact hsteps
  · obtain ⟨e2, q2, q3, q4, q5, q6⟩ := id hsm
    have e3 : s₂ = ({ (U.calling g mk a).setFrames s₂.frames with heap := s₂.heap, slotsUsed := s₂.slotsUsed } : State).setVm s₂.vm := by
      have : s₂ = ({ s₂ with vm := (U.calling g mk a).vm } : State).setVm s₂.vm := rfl
      rw [e2] at this
      exact this
    have hf₂ : s₂.frames = .throwing q :: .java g :: U.frames.tail := hend
    have hW' : U.WarmedH s₂.vm := hW₂
    have hs₂ : s₂ = ((({ U with heap := s₂.heap, slotsUsed := s₂.slotsUsed } : State).setVm s₂.vm).setTop g).pushFrame (.throwing q) := by
      refine e3.trans ?_
      rw [hf₂, State.calling_eq h.top, State.setFrames_setFrames, State.pushFrame, State.frames_setTop _ hr', State.setTop_of_frames _ hr', State.setFrames_setFrames, hr]
      rfl
    have hsame : U.sameButNew ({ U with heap := s₂.heap, slotsUsed := s₂.slotsUsed } : State) L mc ms := by
      refine ⟨?_, q2, q3, q4, q5, q6⟩
      obtain ⟨t, ht, -⟩ := State.frames_cons hr
      show ({ U with heap := s₂.heap, slotsUsed := s₂.slotsUsed } : State) = { U.setFrames U.frames with heap := s₂.heap, slotsUsed := s₂.slotsUsed }
      rw [State.setFrames_self ht]
    subst hg
    refine Or.inr ⟨q, ⟨(({ U with heap := s₂.heap, slotsUsed := s₂.slotsUsed } : State).setVm s₂.vm), Ls ++ L, c0 + mc, s0 + ms⟩,
      ⟨X.admits, X.cas, X.clock, X.frames, X.room, X.hears, X.method, X.code, (X.here.setHeapUsed s₂.heap s₂.slotsUsed).setVm hW'.alike, X.tail, State.WarmedH.trans X.warmed hW', X.limits, X.bytes, X.same.trans (hsame.setVm s.vm)⟩,
      ⟨g, mk, s₂, L, E, ce, rfl, rfl, hx, hce, hcv, hcl, rfl, hL, rfl, rfl⟩, ?_⟩
    show Steps p.tables e below _ (((({ U with heap := s₂.heap, slotsUsed := s₂.slotsUsed } : State).setVm s₂.vm).setTop g).pushFrame (.throwing q))
    rw [← hs₂]
    exact hsteps
end
variable {p : Program} {l : Launch} {e : Env} {R : Room} {s : State} {m : MethodId} {args : Array Value} {below : List Frame} {meth : Method} {c : Code} {T : State} {H : Heap} {locs : List Loc} {cells slots : Nat}
theorem vx_callVX (X : Stand p l e R s m args below meth c T locs cells slots) (hexec : p.tables.exec = Jvm.exec) {own C : String} {index : Nat} {y : MethodName} {bytes : ByteArray} {maxL : Nat} {ret : Option FieldType} {hh : List (Nat × Nat × Nat × Nat)}
    (hown : s.vm.findClass own = some m.cls) (hlink : (Cond.methodLink own index y).before args s = true) (hinst : (Cond.instanceMethod y).before args s = true) (hsel : (Cond.selects C y y).before args s = true)
    (hcode : (Cond.codeWith y bytes maxL ret hh).before args s = true) (hy : y.cls ≠ "java/lang/invoke/MethodHandle" ∧ y.cls ≠ "java/lang/invoke/VarHandle")
    {W9 : Nat} {Pre : Pt → Array Value → Prop} {Post : Pt → Array Value → Option Value → Pt → Prop} {PostX : Pt → Array Value → Addr → Pt → Prop} (hK : vx_Back l R p e below s args y 3 W9 Pre Post PostX)
    {b : Addr} {cellB : Cell} (hcell : T.heap[b]? = some cellB) (hobj : cellB.vm.isStatics = false) (hcls : s.vm.findClass C = some cellB.cls)
    {g : JFrame} (hg : g.method = m) (hsize : g.locals.size = c.maxLocals) {argsL rest : List Value} (hlen : ∀ sig, parseMethodDescriptor y.desc = some sig → argsL.length = sig.parameters.length)
    (hstack : g.stack = argsL.reverse ++ .ref b :: rest) (hW : 2 * g.monitorRoom + (rest.map fun v => v.category).sum ≤ W9) (hdg : decode c.code g.pc = .ok (.invokevirtual index, 3))
    (hpre : ∀ vm₁, s.WarmedH vm₁ → Pre ⟨T.setVm vm₁, locs, cells, slots⟩ (Value.ref b :: argsL).toArray) :
    (∃ (v : Option Value) (vm₁ : Vm) (B : Pt), s.WarmedH vm₁ ∧ Stand p l e R s m args below meth c B.U B.locs B.cells B.slots ∧ Post ⟨T.setVm vm₁, locs, cells, slots⟩ (Value.ref b :: argsL).toArray v B ∧
      ∀ target, Steps p.tables e below (B.U.setTop { g with pc := g.pc + 3, stack := v.toList ++ rest }) target → Steps p.tables e below (T.setTop g) target) ∨
    (∃ (q : Addr) (vm₁ : Vm) (B : Pt), s.WarmedH vm₁ ∧ Stand p l e R s m args below meth c B.U B.locs B.cells B.slots ∧ PostX ⟨T.setVm vm₁, locs, cells, slots⟩ (Value.ref b :: argsL).toArray q B ∧
      Steps p.tables e below (T.setTop g) ((B.U.setTop { g with stack := rest }).pushFrame (.throwing q))) := by
  obtain ⟨mk, methM, hnamed, hmethM, hstM, habM⟩ := Cond.instanceMethod_spec hinst
  obtain ⟨m8, methM', cM, hn8, hmethM', -, -, -, -, -, -, hsigM⟩ := Cond.codeWith_spec hcode
  cases Option.some.inj (hn8.symm.trans hnamed)
  cases hmethM.symm.trans hmethM'
  obtain ⟨c2, r2, m2, q1, q2, q3, q4, kP, hkP, hkPi⟩ := Cond.selects_spec hsel
  cases hcls.symm.trans q1
  cases (State.methodFound?_of_named hnamed hy).symm.trans q2
  cases hnamed.symm.trans q3
  have hselP : selectMethod e.platform s.vm cellB.cls mk = .method mk := by rw [Launch.admits_selectMethod X.admits]; exact q4
  obtain ⟨vm₁, X₁, hstep₁⟩ := X.invokevirtual hexec hown hlink hnamed hmethM hstM hkP hkPi hy (a := b) (cell := cellB) hcell
    (fun z h => by rw [h] at hobj; cases hobj) hselP hmethM habM hkP hkPi (g := g) hg (argsL := argsL) (rest := rest) (hlen _ hsigM) hstack hdg
  rcases hK m meth c ⟨T.setVm vm₁, locs, cells, slots⟩ { g with stack := rest } (.invokevirtual index) mk (Value.ref b :: argsL).toArray X₁ hg hsize hdg hW (X₁.named hnamed) (hpre vm₁ X₁.warmed) with ⟨v, B, X', hpost, hsteps⟩ | ⟨q, B, X', hpost, hsteps⟩
  · exact Or.inl ⟨v, vm₁, B, X₁.warmed, X', hpost, fun target h => hstep₁ _ fun acts => by rw [doInvoke_state]; exact hsteps.trans h⟩
  · exact Or.inr ⟨q, vm₁, B, X₁.warmed, X', hpost, hstep₁ _ fun acts => by rw [doInvoke_state]; exact hsteps⟩
theorem vx_callSX (X : Stand p l e R s m args below meth c T locs cells slots) (hexec : p.tables.exec = Jvm.exec) {own : String} {index : Nat} {y : MethodName} {bytes : ByteArray} {maxL : Nat} {ret : Option FieldType} {hh : List (Nat × Nat × Nat × Nat)}
    (hown : s.vm.findClass own = some m.cls) (hlink : (Cond.methodLink own index y).before args s = true) (hstat : (Cond.static y).before args s = true) (hinit : (Cond.initialized y.cls).before args s = true)
    (hcode : (Cond.codeWith y bytes maxL ret hh).before args s = true) (hy : y.cls ≠ "java/lang/invoke/MethodHandle" ∧ y.cls ≠ "java/lang/invoke/VarHandle")
    {W9 : Nat} {Pre : Pt → Array Value → Prop} {Post : Pt → Array Value → Option Value → Pt → Prop} {PostX : Pt → Array Value → Addr → Pt → Prop} (hK : vx_Back l R p e below s args y 3 W9 Pre Post PostX)
    {g : JFrame} (hg : g.method = m) (hsize : g.locals.size = c.maxLocals) {argsL rest : List Value} (hlen : ∀ sig, parseMethodDescriptor y.desc = some sig → argsL.length = sig.parameters.length)
    (hstack : g.stack = argsL.reverse ++ rest) (hW : 2 * g.monitorRoom + (rest.map fun v => v.category).sum ≤ W9) (hdg : decode c.code g.pc = .ok (.invokestatic index, 3))
    (hpre : ∀ vm₁, s.WarmedH vm₁ → Pre ⟨T.setVm vm₁, locs, cells, slots⟩ argsL.toArray) :
    (∃ (v : Option Value) (vm₁ : Vm) (B : Pt), s.WarmedH vm₁ ∧ Stand p l e R s m args below meth c B.U B.locs B.cells B.slots ∧ Post ⟨T.setVm vm₁, locs, cells, slots⟩ argsL.toArray v B ∧
      ∀ target, Steps p.tables e below (B.U.setTop { g with pc := g.pc + 3, stack := v.toList ++ rest }) target → Steps p.tables e below (T.setTop g) target) ∨
    (∃ (q : Addr) (vm₁ : Vm) (B : Pt), s.WarmedH vm₁ ∧ Stand p l e R s m args below meth c B.U B.locs B.cells B.slots ∧ PostX ⟨T.setVm vm₁, locs, cells, slots⟩ argsL.toArray q B ∧
      Steps p.tables e below (T.setTop g) ((B.U.setTop { g with stack := rest }).pushFrame (.throwing q))) := by
  obtain ⟨mk, methM, cM, hnamed, hmethM, -, -, -, -, -, -, hsigM⟩ := Cond.codeWith_spec hcode
  have hstatic : methM.isStatic = true := Cond.static_spec hnamed hmethM hstat
  obtain ⟨kP, hkP, -⟩ := className_of_methodNamed hnamed
  have hinitP : kP.init = .initialized := Cond.initialized_spec (findClass_of_methodNamed hnamed) hkP hinit
  obtain ⟨vm₁, X₁, hstep₁⟩ := X.invokestatic hexec hown hlink hnamed hmethM hstatic hkP hinitP hy (g := g) hg (argsL := argsL) (rest := rest) (hlen _ hsigM) hstack hdg
  rcases hK m meth c ⟨T.setVm vm₁, locs, cells, slots⟩ { g with stack := rest } (.invokestatic index) mk argsL.toArray X₁ hg hsize hdg hW (X₁.named hnamed) (hpre vm₁ X₁.warmed) with ⟨v, B, X', hpost, hsteps⟩ | ⟨q, B, X', hpost, hsteps⟩
  · exact Or.inl ⟨v, vm₁, B, X₁.warmed, X', hpost, fun target h => hstep₁ _ fun acts => by rw [doInvoke_state]; exact hsteps.trans h⟩
  · exact Or.inr ⟨q, vm₁, B, X₁.warmed, X', hpost, hstep₁ _ fun acts => by rw [doInvoke_state]; exact hsteps⟩
theorem vx_callVW (X : Stand p l e R s m args below meth c T locs cells slots) (hexec : p.tables.exec = Jvm.exec) {own C : String} {index : Nat} {y : MethodName} {bytes : ByteArray} {maxL : Nat} {ret : Option FieldType} {hh : List (Nat × Nat × Nat × Nat)}
    (hown : s.vm.findClass own = some m.cls) (hlink : (Cond.methodLink own index y).before args s = true) (hinst : (Cond.instanceMethod y).before args s = true) (hsel : (Cond.selects C y y).before args s = true)
    (hcode : (Cond.codeWith y bytes maxL ret hh).before args s = true) (hy : y.cls ≠ "java/lang/invoke/MethodHandle" ∧ y.cls ≠ "java/lang/invoke/VarHandle")
    {W9 : Nat} {Pre : Pt → Array Value → Prop} {Post : Pt → Array Value → Option Value → Pt → Prop} (hK : Back l R p e below s args y 3 W9 Pre Post)
    {b : Addr} {cellB : Cell} (hcell : T.heap[b]? = some cellB) (hobj : cellB.vm.isStatics = false) (hcls : s.vm.findClass C = some cellB.cls)
    {g : JFrame} (hg : g.method = m) (hsize : g.locals.size = c.maxLocals) {argsL rest : List Value} (hlen : ∀ sig, parseMethodDescriptor y.desc = some sig → argsL.length = sig.parameters.length)
    (hstack : g.stack = argsL.reverse ++ .ref b :: rest) (hW : 2 * g.monitorRoom + (rest.map fun v => v.category).sum ≤ W9) (hdg : decode c.code g.pc = .ok (.invokevirtual index, 3))
    (hpre : ∀ vm₁, s.WarmedH vm₁ → Pre ⟨T.setVm vm₁, locs, cells, slots⟩ (Value.ref b :: argsL).toArray) :
    ∃ (v : Option Value) (vm₁ : Vm) (B : Pt), s.WarmedH vm₁ ∧ Stand p l e R s m args below meth c B.U B.locs B.cells B.slots ∧ Post ⟨T.setVm vm₁, locs, cells, slots⟩ (Value.ref b :: argsL).toArray v B ∧
      ∀ target, Steps p.tables e below (B.U.setTop { g with pc := g.pc + 3, stack := v.toList ++ rest }) target → Steps p.tables e below (T.setTop g) target := by
  obtain ⟨mk, methM, hnamed, hmethM, hstM, habM⟩ := Cond.instanceMethod_spec hinst
  obtain ⟨m8, methM', cM, hn8, hmethM', -, -, -, -, -, -, hsigM⟩ := Cond.codeWith_spec hcode
  cases Option.some.inj (hn8.symm.trans hnamed)
  cases hmethM.symm.trans hmethM'
  obtain ⟨c2, r2, m2, q1, q2, q3, q4, kP, hkP, hkPi⟩ := Cond.selects_spec hsel
  cases hcls.symm.trans q1
  cases (State.methodFound?_of_named hnamed hy).symm.trans q2
  cases hnamed.symm.trans q3
  have hselP : selectMethod e.platform s.vm cellB.cls mk = .method mk := by rw [Launch.admits_selectMethod X.admits]; exact q4
  obtain ⟨vm₁, X₁, hstep₁⟩ := X.invokevirtual hexec hown hlink hnamed hmethM hstM hkP hkPi hy (a := b) (cell := cellB) hcell
    (fun z h => by rw [h] at hobj; cases hobj) hselP hmethM habM hkP hkPi (g := g) hg (argsL := argsL) (rest := rest) (hlen _ hsigM) hstack hdg
  obtain ⟨v, B, X', hpost, hsteps⟩ := hK m meth c ⟨T.setVm vm₁, locs, cells, slots⟩ { g with stack := rest } (.invokevirtual index) mk (Value.ref b :: argsL).toArray X₁ hg hsize hdg hW (X₁.named hnamed) (hpre vm₁ X₁.warmed)
  exact ⟨v, vm₁, B, X₁.warmed, X', hpost, fun target h => hstep₁ _ fun acts => by rw [doInvoke_state]; exact hsteps.trans h⟩
abbrev vx_CVW (R : Room) (s : State) (args : Array Value) (own C : String) (index : Nat) (y : MethodName) (bytes : ByteArray) (maxL : Nat) (ret : Option FieldType) (hh : List (Nat × Nat × Nat × Nat)) (ws : List Cond) (rm : Room) (mc ms n : Nat) : Prop :=
  (rm.cells = mc ∧ rm.slots = ms ∧ rm.frames + 1 ≤ R.frames ∧ 8 + (maxL + 11) + rm.locals ≤ R.locals ∧ (∀ w ∈ ws, ∀ (a' : Array Value) (U : State), s.WarmedH U.vm → w.before a' U = true) ∧ Cond.codeWith y bytes maxL ret hh ∈ ws) ∧
  (Cond.codeWith y bytes maxL ret hh).before args s = true ∧ (Cond.initialized y.cls).before args s = true ∧ (y.cls ≠ "java/lang/invoke/MethodHandle" ∧ y.cls ≠ "java/lang/invoke/VarHandle") ∧
  (∀ sig, parseMethodDescriptor y.desc = some sig → n = sig.parameters.length) ∧ (Cond.methodLink own index y).before args s = true ∧ (Cond.instanceMethod y).before args s = true ∧ (Cond.selects C y y).before args s = true
theorem vx_cwVW {own C : String} {index maxL mc ms : Nat} {y : MethodName} {bytes : ByteArray} {ret : Option FieldType} {hh : List (Nat × Nat × Nat × Nat)} {Ts ws ws' : List Cond} {rm : Room} (n : Nat) (ht : ∀ w ∈ Ts, w.before args s = true) (hT : GoodIn Ts (wsV own index C y ws)) (hw : ws = Cond.codeWith y bytes maxL ret hh :: ws') (hrc : rm.cells = mc) (hrs : rm.slots = ms)
    (hd : y.cls = C ∧ y.cls ≠ "java/lang/invoke/MethodHandle" ∧ y.cls ≠ "java/lang/invoke/VarHandle" ∧ (parseMethodDescriptor y.desc).map (fun d => d.parameters.length) = some n) (hR : rm.frames + 1 ≤ R.frames ∧ 8 + (maxL + 11) + rm.locals ≤ R.locals) :
    vx_CVW R s args own C index y bytes maxL ret hh ws rm mc ms n := by
  obtain ⟨hC, hd⟩ := hd
  subst hC
  have ok : ∀ w ∈ wsV own index y.cls y ws, w.before args s = true := fun w h => ht w (hT w h).1
  have hG : GoodIn Ts ws := fun w h => hT w (by unfold wsV; exact List.mem_append_right _ h)
  have hc : Cond.codeWith y bytes maxL ret hh ∈ ws := by rw [hw]; exact List.mem_cons_self
  refine ⟨⟨hrc, hrs, hR.1, hR.2, pay_in ht hG, hc⟩, ht _ (hG _ hc).1, ok _ (by simp [wsV]), ⟨hd.1, hd.2.1⟩, fun sig h => ?_, ok _ (by simp [wsV]), ok _ (by simp [wsV]), ok _ (by simp [wsV])⟩
  have h2 := hd.2.2
  rw [h] at h2
  exact (Option.some.inj h2).symm
theorem vx_runVW {y : MethodName} {bytes cc : ByteArray} {maxL nL mc ms n index : Nat} {ret : Option FieldType} {hh : List (Nat × Nat × Nat × Nat)} {ws : List Cond} {rm : Room} {Pc : Array Value → State → Prop} {Qc : Array Value → State → Outcome → State → Prop} {free : Addr → Prop} {Ts : List Cond} {own C : String} {b : Addr} {As rest : List Value} {g : JFrame}
    (S : CallFix p m c cc nL s args Ts own) (hM : Met l y ws rm Pc Qc mc ms free) (cw : vx_CVW R s args own C index y bytes maxL ret hh ws rm mc ms n) (hp : PreV s H C b Pc As)
    (hg : g.method = m) (hn : As.length = n) (hsize : g.locals.size = nL) (hstack : g.stack = As.reverse ++ .ref b :: rest) (hW : 2 * g.monitorRoom + (rest.map fun v => v.category).sum ≤ 8) (hdg : decode cc g.pc = .ok (.invokevirtual index, 3)) (hf : cells + mc ≤ R.cells ∧ slots + ms ≤ R.slots) :
    va_Run p l e R s m args below meth c H locs cells slots mc ms g rest (Qc (Value.ref b :: As).toArray) free := by
  obtain ⟨⟨hrc, hrs, hfr, hlo, hws, hcw⟩, hcode, hini, hy, hlen, hl, hin, hse⟩ := cw
  have hK : Back l R p e below s args y 3 8 (PreOf R mc ms Pc) (PostOf Qc mc ms free) := va_backW (hh := hh) (bytes := bytes) (maxL := maxL) (ret := ret) hM hp.1 hrc hrs hfr hlo hws hcw (fun a' U hW => word_at hW (Or.inl (by first | rfl | simp [Cond.onTables, Cond.keeps, Cond.steady])) hini)
  obtain ⟨hx, hb, hml, ho, -⟩ := S
  obtain ⟨-, ⟨cellB, hcB, hoB, hclB⟩, hPc⟩ := hp
  intro T hT X
  obtain ⟨v, vm₁, ⟨U', l2, c2, s2⟩, hW₁, X', ⟨g', mk, t, L, e1, e2, hq, h1, hL, h2, h3⟩, st⟩ := vx_callVW X hx (C := C) (hh := hh) (bytes := bytes) (maxL := maxL) (ret := ret) ho hl hin hse hcode hy hK (by rw [hT]; exact hcB) hoB hclB hg (hsize.trans hml.symm) (argsL := As) (rest := rest) (fun sig h => hn.trans (hlen sig h)) hstack hW (by rw [hb]; exact hdg)
    (fun vm₁ hW₁ => ⟨hf.1, hf.2, hPc (T.setVm vm₁) hT hW₁⟩)
  dsimp only [Pt.U, Pt.locs, Pt.cells, Pt.slots] at X' e1 e2 h1 h2 h3 st
  subst h1; subst h2; subst h3
  exact ⟨v, (T.setVm vm₁).calling g' mk (Value.ref b :: As).toArray, t, U', L, hT, X', hL, e1, e2, hq, st⟩
section
variable {y : MethodName} {bytes cc : ByteArray} {maxL nL mc ms n index : Nat} {ret : Option FieldType} {ws : List Cond} {rm : Room} {Pc : Array Value → State → Prop} {Qc : Array Value → State → Outcome → State → Prop} {XC : String → State → State → Prop} {free : Addr → Prop} {Ts : List Cond} {own C : String} {b : Addr} {As rest : List Value} {g : JFrame}
theorem vx_runVX {hh : List (Nat × Nat × Nat × Nat)} (S : CallFix p m c cc nL s args Ts own) (hM : vx_Met l y ws rm Pc Qc XC mc ms free) (cw : vx_CVW R s args own C index y bytes maxL ret hh ws rm mc ms n) (hp : PreV s H C b Pc As)
    (hg : g.method = m) (hn : As.length = n) (hsize : g.locals.size = nL) (hstack : g.stack = As.reverse ++ .ref b :: rest) (hW : 2 * g.monitorRoom + (rest.map fun v => v.category).sum ≤ 8) (hdg : decode cc g.pc = .ok (.invokevirtual index, 3)) (hf : cells + mc ≤ R.cells ∧ slots + ms ≤ R.slots) :
    vx_Run p l e R s m args below meth c H locs cells slots mc ms g rest (Qc (Value.ref b :: As).toArray) XC free := by
  obtain ⟨⟨hrc, hrs, hfr, hlo, hws, hcw⟩, hcode, hini, hy, hlen, hl, hin, hse⟩ := cw
  have hK : vx_Back l R p e below s args y 3 8 (PreOf R mc ms Pc) (PostOf Qc mc ms free) (vx_Post XC mc ms free) := vx_backW (hh := hh) (bytes := bytes) (maxL := maxL) (ret := ret) hM hp.1 hrc hrs hfr hlo hws hcw (fun a' U hW => word_at hW (Or.inl (by first | rfl | simp [Cond.onTables, Cond.keeps, Cond.steady])) hini)
  obtain ⟨hx, hb, hml, ho, -⟩ := S
  obtain ⟨-, ⟨cellB, hcB, hoB, hclB⟩, hPc⟩ := hp
  intro T hT X
  rcases vx_callVX X hx (C := C) (hh := hh) (bytes := bytes) (maxL := maxL) (ret := ret) ho hl hin hse hcode hy hK (by rw [hT]; exact hcB) hoB hclB hg (hsize.trans hml.symm) (argsL := As) (rest := rest) (fun sig h => hn.trans (hlen sig h)) hstack hW (by rw [hb]; exact hdg)
    (fun vm₁ hW₁ => ⟨hf.1, hf.2, hPc (T.setVm vm₁) hT hW₁⟩) with ⟨v, vm₁, ⟨U', l2, c2, s2⟩, hW₁, X', ⟨g', mk, t, L, e1, e2, hq, h1, hL, h2, h3⟩, st⟩ | ⟨q, vm₁, ⟨U', l2, c2, s2⟩, hW₁, X', ⟨g', mk, t, L, E, ce, e1, e2, hq, hce, hcv, hcl, h1, hL, h2, h3⟩, st⟩
  · dsimp only [Pt.U, Pt.locs, Pt.cells, Pt.slots] at X' e1 e2 h1 h2 h3 st
    subst h1; subst h2; subst h3
    exact Or.inl ⟨v, (T.setVm vm₁).calling g' mk (Value.ref b :: As).toArray, t, U', L, hT, X', hL, e1, e2, hq, st⟩
  · dsimp only [Pt.U, Pt.locs, Pt.cells, Pt.slots] at X' e1 e2 h1 h2 h3 st hcl
    subst h1; subst h2; subst h3
    exact Or.inr ⟨q, (T.setVm vm₁).calling g' mk (Value.ref b :: As).toArray, t, U', L, E, ce, hT, X', hL, e1, e2, hq, hce, hcv, vx_cls hW₁ hcl, st⟩
theorem vx_runSX {hh : List (Nat × Nat × Nat × Nat)} (S : CallFix p m c cc nL s args Ts own) (hM : vx_Met l y ws rm Pc Qc XC mc ms free) (cw : vx_CSW R s args own index y bytes maxL ret hh ws rm mc ms n) (hp : PreS s H Pc As)
    (hg : g.method = m) (hn : As.length = n) (hsize : g.locals.size = nL) (hstack : g.stack = As.reverse ++ rest) (hW : 2 * g.monitorRoom + (rest.map fun v => v.category).sum ≤ 8) (hdg : decode cc g.pc = .ok (.invokestatic index, 3)) (hf : cells + mc ≤ R.cells ∧ slots + ms ≤ R.slots) :
    vx_Run p l e R s m args below meth c H locs cells slots mc ms g rest (Qc As.toArray) XC free := by
  obtain ⟨⟨hrc, hrs, hfr, hlo, hws, hcw⟩, hcode, hini, hy, hlen, hl, hstt⟩ := cw
  have hK : vx_Back l R p e below s args y 3 8 (PreOf R mc ms Pc) (PostOf Qc mc ms free) (vx_Post XC mc ms free) := vx_backW (hh := hh) (bytes := bytes) (maxL := maxL) (ret := ret) hM hp.1 hrc hrs hfr hlo hws hcw (fun a' U hW => word_at hW (Or.inl (by first | rfl | simp [Cond.onTables, Cond.keeps, Cond.steady])) hini)
  obtain ⟨hx, hb, hml, ho, -⟩ := S
  intro T hT X
  rcases vx_callSX X hx (hh := hh) (bytes := bytes) (maxL := maxL) (ret := ret) ho hl hstt hini hcode hy hK hg (hsize.trans hml.symm) (argsL := As) (rest := rest) (fun sig h => hn.trans (hlen sig h)) hstack hW (by rw [hb]; exact hdg)
    (fun vm₁ hW₁ => ⟨hf.1, hf.2, hp.2 (T.setVm vm₁) hT hW₁⟩) with ⟨v, vm₁, ⟨U', l2, c2, s2⟩, hW₁, X', ⟨g', mk, t, L, e1, e2, hq, h1, hL, h2, h3⟩, st⟩ | ⟨q, vm₁, ⟨U', l2, c2, s2⟩, hW₁, X', ⟨g', mk, t, L, E, ce, e1, e2, hq, hce, hcv, hcl, h1, hL, h2, h3⟩, st⟩
  · dsimp only [Pt.U, Pt.locs, Pt.cells, Pt.slots] at X' e1 e2 h1 h2 h3 st
    subst h1; subst h2; subst h3
    exact Or.inl ⟨v, (T.setVm vm₁).calling g' mk As.toArray, t, U', L, hT, X', hL, e1, e2, hq, st⟩
  · dsimp only [Pt.U, Pt.locs, Pt.cells, Pt.slots] at X' e1 e2 h1 h2 h3 st hcl
    subst h1; subst h2; subst h3
    exact Or.inr ⟨q, (T.setVm vm₁).calling g' mk As.toArray, t, U', L, E, ce, hT, X', hL, e1, e2, hq, hce, hcv, vx_cls hW₁ hcl, st⟩
end
end VXH
theorem vx_ofWH {l : Launch} {y : MethodName} {ws ws' : List Cond} {rm : Room} {Pc : Array Value → State → Prop} {Qc : Array Value → State → Outcome → State → Prop} {XC : String → State → State → Prop} {mc ms : Nat} {free : Addr → Prop} {cc : ByteArray} {maxL : Nat} {ret : Option FieldType} {hh : List (Nat × Nat × Nat × Nat)}
    (hy : plainName y.cls = true) (hw : ws = Cond.codeWith y cc maxL ret hh :: ws')
    (body : ∀ p e s m args below meth c s₁, BodyLoose p l y (headSpec ws rm) cc maxL ret e s m args below meth c s₁ → c.maxLocals = maxL → Pc args s →
      W p l e (headSpec ws rm).room s m args below meth c s.heap [] 0 0 (vx_MQ below Qc XC args s mc ms free) (entryFrame m args maxL)) : vx_Met l y ws rm Pc Qc XC mc ms free := by
  refine MetFree.of_bodyS (code := cc) (maxLocals := maxL) (ret := ret) hy ?_ ?_
  · intro args s m h hn
    obtain ⟨m9, meth, c, hn9, h1, h2, h3, h4, -, h5, h6, -⟩ := Cond.codeWith_spec (atoms_spec (ws := ws) h _ (by rw [hw]; exact List.mem_cons_self))
    cases hn.symm.trans hn9
    exact ⟨meth, c, h1, h2, h3, h4, h5, h6⟩
  · intro p e s m args below meth c s₁ B hml hP _
    have hh0 : s₁.heap = s.heap := by rw [B.state]; rfl
    obtain ⟨t, a1, o, b1, b2, b3⟩ := body p e s m args below meth c s₁ B hml hP s₁ hh0 (Stand.of_body B)
    exact ⟨t, o, a1, b1, b2, b3⟩
/-! ===== END ===== -/
end
section
def RX0 : String := "SilkMill$Cocoon"
def TX0 : u_T := fun k => match k with
  | 0 => ("SilkMill$Cocoon", "lotNumber", "I", true)
  | 1 => ("SilkMill$Cocoon", "index", "I", true)
  | 2 => ("SilkMill$Cocoon", "length", "I", true)
  | 3 => ("SilkMill$Cocoon", "stand", "I", false)
  | 4 => ("SilkMill$Cocoon", "drawnTo", "I", false)
  | 5 => ("SilkMill$Cocoon", "potNumber", "I", false)
  | 6 => ("SilkMill$Cocoon", "latestPiece", "I", false)
  | 7 => ("SilkMill$Cocoon", "seed", "I", true)
  | 8 => ("SilkMill$Cocoon", "base", "I", true)
  | _ => ("SilkMill$Cocoon", "frail", "I", true)
def tyX0 : Nat → FieldType := fun k => match k with
  | 0 => .int
  | 1 => .int
  | 2 => .int
  | 3 => .int
  | 4 => .int
  | 5 => .int
  | 6 => .int
  | 7 => .int
  | 8 => .int
  | _ => .int
abbrev wsX00 : List Cond := u_ws RX0 TX0 10
theorem nmX0 : ∀ a, a < 10 → ∀ b, b < 10 → a ≠ b → (TX0 a).2.1 ≠ (TX0 b).2.1 := by decide +kernel
theorem tyX0_ok : ∀ k, k < 10 → parseFieldDescriptor (TX0 k).2.2.1 = some (tyX0 k) := by decide +kernel
abbrev cX0_init : ByteArray := prog_2_method_1_code
def yX0_init : MethodName := ⟨RX0, "<init>", "(IIIIII)V"⟩
abbrev cX0_code : ByteArray := prog_2_method_2_code
def yX0_code : MethodName := ⟨RX0, "code", "()I"⟩
abbrev cX0_isInPot : ByteArray := prog_2_method_3_code
def yX0_isInPot : MethodName := ⟨RX0, "isInPot", "()Z"⟩
abbrev cX0_finenessAt : ByteArray := prog_2_method_4_code
def yX0_finenessAt : MethodName := ⟨RX0, "finenessAt", "(I)I"⟩
abbrev cX0_silkBetween : ByteArray := prog_2_method_5_code
def yX0_silkBetween : MethodName := ⟨RX0, "silkBetween", "(II)I"⟩
abbrev cX0_breaksAnywhere : ByteArray := prog_2_method_6_code
def yX0_breaksAnywhere : MethodName := ⟨RX0, "breaksAnywhere", "()Z"⟩
abbrev cX0_drawOneMetre : ByteArray := prog_2_method_7_code
def yX0_drawOneMetre : MethodName := ⟨RX0, "drawOneMetre", "()V"⟩
abbrev cX0_breaksAt : ByteArray := prog_2_method_8_code
def yX0_breaksAt : MethodName := ⟨RX0, "breaksAt", "(I)Z"⟩
def RX1 : String := "SilkMill$Draw"
def TX1 : u_T := fun k => match k with
  | 0 => ("SilkMill$Draw", "metres", "[I", true)
  | 1 => ("SilkMill$Draw", "size", "I", false)
  | 2 => ("SilkMill$Draw", "off", "I", false)
  | _ => ("SilkMill$Draw", "bound", "I", false)
def tyX1 : Nat → FieldType := fun k => match k with
  | 0 => .array .int
  | 1 => .int
  | 2 => .int
  | _ => .int
abbrev wsX10 : List Cond := u_ws RX1 TX1 4
theorem nmX1 : ∀ a, a < 4 → ∀ b, b < 4 → a ≠ b → (TX1 a).2.1 ≠ (TX1 b).2.1 := by decide +kernel
theorem tyX1_ok : ∀ k, k < 4 → parseFieldDescriptor (TX1 k).2.2.1 = some (tyX1 k) := by decide +kernel
abbrev cX1_init : ByteArray := prog_3_method_1_code
def yX1_init : MethodName := ⟨RX1, "<init>", "()V"⟩
abbrev cX1_drawFrom : ByteArray := prog_3_method_2_code
def yX1_drawFrom : MethodName := ⟨RX1, "drawFrom", "(LSilkMill$Skein;II)V"⟩
abbrev cX1_gradeOfOff : ByteArray := prog_3_method_3_code
def yX1_gradeOfOff : MethodName := ⟨RX1, "gradeOfOff", "()I"⟩
abbrev cX1_notDrawnFrom : ByteArray := prog_3_method_4_code
def yX1_notDrawnFrom : MethodName := ⟨RX1, "notDrawnFrom", "(II)I"⟩
abbrev cX1_isDrawn : ByteArray := prog_3_method_5_code
def yX1_isDrawn : MethodName := ⟨RX1, "isDrawn", "(I)Z"⟩
abbrev cX1_boundOf : ByteArray := prog_3_method_6_code
def yX1_boundOf : MethodName := ⟨RX1, "boundOf", "(II)I"⟩
abbrev cX1_waysInOrder : ByteArray := prog_3_method_7_code
def yX1_waysInOrder : MethodName := ⟨RX1, "waysInOrder", "(II)J"⟩
def RX2 : String := "SilkMill$Mixer"
def TX2 : u_T := fun k => match k with
  | 0 => ("SilkMill$Mixer", "numbers", "[I", true)
  | 1 => ("SilkMill$Mixer", "weights", "[I", true)
  | 2 => ("SilkMill$Mixer", "prices", "[I", true)
  | 3 => ("SilkMill$Mixer", "size", "I", false)
  | 4 => ("SilkMill$Mixer", "offered", "I", false)
  | 5 => ("SilkMill$Mixer", "wanted", "I", false)
  | 6 => ("SilkMill$Mixer", "bestPrice", "I", false)
  | _ => ("SilkMill$Mixer", "bestSet", "I", false)
def tyX2 : Nat → FieldType := fun k => match k with
  | 0 => .array .int
  | 1 => .array .int
  | 2 => .array .int
  | 3 => .int
  | 4 => .int
  | 5 => .int
  | 6 => .int
  | _ => .int
abbrev wsX20 : List Cond := u_ws RX2 TX2 8
theorem nmX2 : ∀ a, a < 8 → ∀ b, b < 8 → a ≠ b → (TX2 a).2.1 ≠ (TX2 b).2.1 := by decide +kernel
theorem tyX2_ok : ∀ k, k < 8 → parseFieldDescriptor (TX2 k).2.2.1 = some (tyX2 k) := by decide +kernel
abbrev cX2_init : ByteArray := prog_4_method_1_code
def yX2_init : MethodName := ⟨RX2, "<init>", "()V"⟩
abbrev cX2_beginFor : ByteArray := prog_4_method_2_code
def yX2_beginFor : MethodName := ⟨RX2, "beginFor", "(I)V"⟩
abbrev cX2_offer : ByteArray := prog_4_method_3_code
def yX2_offer : MethodName := ⟨RX2, "offer", "(III)V"⟩
abbrev cX2_leastPrice : ByteArray := prog_4_method_4_code
def yX2_leastPrice : MethodName := ⟨RX2, "leastPrice", "()I"⟩
abbrev cX2_isChosen : ByteArray := prog_4_method_5_code
def yX2_isChosen : MethodName := ⟨RX2, "isChosen", "(I)Z"⟩
abbrev cX2_seek : ByteArray := prog_4_method_6_code
def yX2_seek : MethodName := ⟨RX2, "seek", "(LSilkMill$Mixer;IIII)V"⟩
def RX3 : String := "SilkMill$Place"
def TX3 : u_T := fun k => match k with
  | 0 => ("SilkMill$Place", "kind", "I", false)
  | 1 => ("SilkMill$Place", "wordSize", "I", false)
  | 2 => ("SilkMill$Place", "word", "[I", true)
  | 3 => ("SilkMill$Place", "cocoon", "LSilkMill$Cocoon;", false)
  | _ => ("SilkMill$Place", "number", "I", false)
def tyX3 : Nat → FieldType := fun k => match k with
  | 0 => .int
  | 1 => .int
  | 2 => .array .int
  | 3 => .object "SilkMill$Cocoon"
  | _ => .int
abbrev wsX30 : List Cond := u_ws RX3 TX3 5
theorem nmX3 : ∀ a, a < 5 → ∀ b, b < 5 → a ≠ b → (TX3 a).2.1 ≠ (TX3 b).2.1 := by decide +kernel
theorem tyX3_ok : ∀ k, k < 5 → parseFieldDescriptor (TX3 k).2.2.1 = some (tyX3 k) := by decide +kernel
abbrev cX3_init : ByteArray := prog_5_method_1_code
def yX3_init : MethodName := ⟨RX3, "<init>", "()V"⟩
abbrev cX3_hasRow : ByteArray := prog_5_method_2_code
def yX3_hasRow : MethodName := ⟨RX3, "hasRow", "()Z"⟩
abbrev cX3_putCocoon : ByteArray := prog_5_method_3_code
def yX3_putCocoon : MethodName := ⟨RX3, "putCocoon", "(LSilkMill$Cocoon;)Z"⟩
abbrev cX3_putNumber : ByteArray := prog_5_method_4_code
def yX3_putNumber : MethodName := ⟨RX3, "putNumber", "(I)Z"⟩
abbrev cX3_putWord : ByteArray := prog_5_method_5_code
def yX3_putWord : MethodName := ⟨RX3, "putWord", "(II)Z"⟩
abbrev cX3_giveUp : ByteArray := prog_5_method_6_code
def yX3_giveUp : MethodName := ⟨RX3, "giveUp", "()I"⟩
abbrev cX3_sumOfWord : ByteArray := prog_5_method_7_code
def yX3_sumOfWord : MethodName := ⟨RX3, "sumOfWord", "()I"⟩
abbrev cX3_returnCocoon : ByteArray := prog_5_method_8_code
def yX3_returnCocoon : MethodName := ⟨RX3, "returnCocoon", "()I"⟩
def RX4 : String := "SilkMill$Pot"
def TX4 : u_T := fun k => match k with
  | 0 => ("SilkMill$Pot", "basket", "LSilkMill$Row;", true)
  | 1 => ("SilkMill$Pot", "ends", "LSilkMill$Row;", true)
  | 2 => ("SilkMill$Pot", "lost", "LSilkMill$Row;", true)
  | 3 => ("SilkMill$Pot", "strand", "LSilkMill$Strand;", true)
  | 4 => ("SilkMill$Pot", "aim", "I", false)
  | 5 => ("SilkMill$Pot", "stop", "I", false)
  | 6 => ("SilkMill$Pot", "search", "I", false)
  | 7 => ("SilkMill$Pot", "metresEver", "I", false)
  | 8 => ("SilkMill$Pot", "ticksEver", "I", false)
  | 9 => ("SilkMill$Pot", "rules", "LSilkMill$Rules;", false)
  | 10 => ("SilkMill$Pot", "potNumber", "I", true)
  | _ => ("SilkMill$Pot", "find", "I", true)
def tyX4 : Nat → FieldType := fun k => match k with
  | 0 => .object "SilkMill$Row"
  | 1 => .object "SilkMill$Row"
  | 2 => .object "SilkMill$Row"
  | 3 => .object "SilkMill$Strand"
  | 4 => .int
  | 5 => .int
  | 6 => .int
  | 7 => .int
  | 8 => .int
  | 9 => .object "SilkMill$Rules"
  | 10 => .int
  | _ => .int
abbrev wsX40 : List Cond := u_ws RX4 TX4 12
theorem nmX4 : ∀ a, a < 12 → ∀ b, b < 12 → a ≠ b → (TX4 a).2.1 ≠ (TX4 b).2.1 := by decide +kernel
theorem tyX4_ok : ∀ k, k < 12 → parseFieldDescriptor (TX4 k).2.2.1 = some (tyX4 k) := by decide +kernel
abbrev cX4_init : ByteArray := prog_6_method_1_code
def yX4_init : MethodName := ⟨RX4, "<init>", "(III)V"⟩
abbrev cX4_receive : ByteArray := prog_6_method_2_code
def yX4_receive : MethodName := ⟨RX4, "receive", "(LSilkMill$Cocoon;)V"⟩
abbrev cX4_rowNumbered : ByteArray := prog_6_method_3_code
def yX4_rowNumbered : MethodName := ⟨RX4, "rowNumbered", "(I)LSilkMill$Row;"⟩
abbrev cX4_tick : ByteArray := prog_6_method_4_code
def yX4_tick : MethodName := ⟨RX4, "tick", "(LSilkMill$Store;)Z"⟩
abbrev cX4_cutStrand : ByteArray := prog_6_method_5_code
def yX4_cutStrand : MethodName := ⟨RX4, "cutStrand", "(LSilkMill$Store;)I"⟩
abbrev cX4_searchLost : ByteArray := prog_6_method_6_code
def yX4_searchLost : MethodName := ⟨RX4, "searchLost", "()V"⟩
abbrev cX4_fetchLost : ByteArray := prog_6_method_7_code
def yX4_fetchLost : MethodName := ⟨RX4, "fetchLost", "()V"⟩
abbrev cX4_applyRules : ByteArray := prog_6_method_8_code
def yX4_applyRules : MethodName := ⟨RX4, "applyRules", "(LSilkMill$Store;)V"⟩
abbrev cX4_allHold : ByteArray := prog_6_method_9_code
def yX4_allHold : MethodName := ⟨RX4, "allHold", "(II)Z"⟩
abbrev cX4_valueOf : ByteArray := prog_6_method_10_code
def yX4_valueOf : MethodName := ⟨RX4, "valueOf", "(II)I"⟩
abbrev cX4_isRelated : ByteArray := prog_6_method_11_code
def yX4_isRelated : MethodName := ⟨RX4, "isRelated", "(III)Z"⟩
abbrev cX4_act : ByteArray := prog_6_method_12_code
def yX4_act : MethodName := ⟨RX4, "act", "(IILSilkMill$Store;)V"⟩
abbrev cX4_castFirst : ByteArray := prog_6_method_13_code
def yX4_castFirst : MethodName := ⟨RX4, "castFirst", "()V"⟩
abbrev cX4_dropThinnest : ByteArray := prog_6_method_14_code
def yX4_dropThinnest : MethodName := ⟨RX4, "dropThinnest", "()V"⟩
abbrev cX4_findFirst : ByteArray := prog_6_method_15_code
def yX4_findFirst : MethodName := ⟨RX4, "findFirst", "()V"⟩
abbrev cX4_throwLast : ByteArray := prog_6_method_16_code
def yX4_throwLast : MethodName := ⟨RX4, "throwLast", "(LSilkMill$Store;)V"⟩
abbrev cX4_finenessOf : ByteArray := prog_6_method_17_code
def yX4_finenessOf : MethodName := ⟨RX4, "finenessOf", "(LSilkMill$Cocoon;)I"⟩
abbrev cX4_drawMetre : ByteArray := prog_6_method_18_code
def yX4_drawMetre : MethodName := ⟨RX4, "drawMetre", "(LSilkMill$Store;)V"⟩
abbrev cX4_drawEnd : ByteArray := prog_6_method_19_code
def yX4_drawEnd : MethodName := ⟨RX4, "drawEnd", "(LSilkMill$Cocoon;I)V"⟩
def RX5 : String := "SilkMill$Row"
def TX5 : u_T := fun k => match k with
  | 0 => ("SilkMill$Row", "size", "I", false)
  | 1 => ("SilkMill$Row", "cells", "[LSilkMill$Cocoon;", true)
  | _ => ("SilkMill$Row", "head", "I", false)
def tyX5 : Nat → FieldType := fun k => match k with
  | 0 => .int
  | 1 => .array (.object "SilkMill$Cocoon")
  | _ => .int
abbrev wsX50 : List Cond := u_ws RX5 TX5 3
theorem nmX5 : ∀ a, a < 3 → ∀ b, b < 3 → a ≠ b → (TX5 a).2.1 ≠ (TX5 b).2.1 := by decide +kernel
theorem tyX5_ok : ∀ k, k < 3 → parseFieldDescriptor (TX5 k).2.2.1 = some (tyX5 k) := by decide +kernel
abbrev cX5_init : ByteArray := prog_7_method_1_code
def yX5_init : MethodName := ⟨RX5, "<init>", "(I)V"⟩
abbrev cX5_at : ByteArray := prog_7_method_2_code
def yX5_at : MethodName := ⟨RX5, "at", "(I)LSilkMill$Cocoon;"⟩
abbrev cX5_addLast : ByteArray := prog_7_method_3_code
def yX5_addLast : MethodName := ⟨RX5, "addLast", "(LSilkMill$Cocoon;)V"⟩
abbrev cX5_addFirst : ByteArray := prog_7_method_4_code
def yX5_addFirst : MethodName := ⟨RX5, "addFirst", "(LSilkMill$Cocoon;)V"⟩
abbrev cX5_removeFirst : ByteArray := prog_7_method_5_code
def yX5_removeFirst : MethodName := ⟨RX5, "removeFirst", "()LSilkMill$Cocoon;"⟩
abbrev cX5_removeAt : ByteArray := prog_7_method_6_code
def yX5_removeAt : MethodName := ⟨RX5, "removeAt", "(I)LSilkMill$Cocoon;"⟩
abbrev cX5_sumOfFineness : ByteArray := prog_7_method_7_code
def yX5_sumOfFineness : MethodName := ⟨RX5, "sumOfFineness", "()I"⟩
abbrev cX5_thinnest : ByteArray := prog_7_method_8_code
def yX5_thinnest : MethodName := ⟨RX5, "thinnest", "()I"⟩
abbrev cX5_cellOf : ByteArray := prog_7_method_9_code
def yX5_cellOf : MethodName := ⟨RX5, "cellOf", "(I)I"⟩
def RX6 : String := "SilkMill$Rules"
def TX6 : u_T := fun k => match k with
  | 0 => ("SilkMill$Rules", "size", "I", false)
  | 1 => ("SilkMill$Rules", "acts", "[I", true)
  | 2 => ("SilkMill$Rules", "amounts", "[I", true)
  | 3 => ("SilkMill$Rules", "conditions", "[I", true)
  | 4 => ("SilkMill$Rules", "fields", "[I", true)
  | 5 => ("SilkMill$Rules", "relations", "[I", true)
  | _ => ("SilkMill$Rules", "numbers", "[I", true)
def tyX6 : Nat → FieldType := fun k => match k with
  | 0 => .int
  | 1 => .array .int
  | 2 => .array .int
  | 3 => .array .int
  | 4 => .array .int
  | 5 => .array .int
  | _ => .array .int
abbrev wsX60 : List Cond := u_ws RX6 TX6 7
theorem nmX6 : ∀ a, a < 7 → ∀ b, b < 7 → a ≠ b → (TX6 a).2.1 ≠ (TX6 b).2.1 := by decide +kernel
theorem tyX6_ok : ∀ k, k < 7 → parseFieldDescriptor (TX6 k).2.2.1 = some (tyX6 k) := by decide +kernel
abbrev cX6_init : ByteArray := prog_8_method_1_code
def yX6_init : MethodName := ⟨RX6, "<init>", "()V"⟩
abbrev cX6_openRule : ByteArray := prog_8_method_2_code
def yX6_openRule : MethodName := ⟨RX6, "openRule", "()V"⟩
abbrev cX6_addCondition : ByteArray := prog_8_method_3_code
def yX6_addCondition : MethodName := ⟨RX6, "addCondition", "(III)V"⟩
abbrev cX6_closeRule : ByteArray := prog_8_method_4_code
def yX6_closeRule : MethodName := ⟨RX6, "closeRule", "(II)V"⟩
def RX7 : String := "SilkMill$Skein"
def TX7 : u_T := fun k => match k with
  | 0 => ("SilkMill$Skein", "potNumber", "I", true)
  | 1 => ("SilkMill$Skein", "aim", "I", true)
  | 2 => ("SilkMill$Skein", "dayCut", "I", true)
  | 3 => ("SilkMill$Skein", "strand", "LSilkMill$Strand;", true)
  | 4 => ("SilkMill$Skein", "least", "I", true)
  | 5 => ("SilkMill$Skein", "greatest", "I", true)
  | 6 => ("SilkMill$Skein", "slips", "I", true)
  | 7 => ("SilkMill$Skein", "latestGrade", "I", false)
  | 8 => ("SilkMill$Skein", "sold", "Z", false)
  | _ => ("SilkMill$Skein", "inLatestMix", "Z", false)
def tyX7 : Nat → FieldType := fun k => match k with
  | 0 => .int
  | 1 => .int
  | 2 => .int
  | 3 => .object "SilkMill$Strand"
  | 4 => .int
  | 5 => .int
  | 6 => .int
  | 7 => .int
  | 8 => .boolean
  | _ => .boolean
abbrev wsX70 : List Cond := u_ws RX7 TX7 10
theorem nmX7 : ∀ a, a < 10 → ∀ b, b < 10 → a ≠ b → (TX7 a).2.1 ≠ (TX7 b).2.1 := by decide +kernel
theorem tyX7_ok : ∀ k, k < 10 → parseFieldDescriptor (TX7 k).2.2.1 = some (tyX7 k) := by decide +kernel
abbrev cX7_init : ByteArray := prog_9_method_1_code
def yX7_init : MethodName := ⟨RX7, "<init>", "(LSilkMill$Strand;III)V"⟩
abbrev cX7_isOf : ByteArray := prog_9_method_2_code
def yX7_isOf : MethodName := ⟨RX7, "isOf", "(II)Z"⟩
def RX8 : String := "SilkMill$Store"
def TX8 : u_T := fun k => match k with
  | 0 => ("SilkMill$Store", "kept", "I", false)
  | 1 => ("SilkMill$Store", "today", "I", false)
  | 2 => ("SilkMill$Store", "silkDrawn", "I", false)
  | 3 => ("SilkMill$Store", "silkKept", "I", false)
  | 4 => ("SilkMill$Store", "silkThrown", "I", false)
  | 5 => ("SilkMill$Store", "waste", "I", false)
  | 6 => ("SilkMill$Store", "faults", "I", false)
  | 7 => ("SilkMill$Store", "prices", "[I", true)
  | 8 => ("SilkMill$Store", "skeins", "[LSilkMill$Skein;", true)
  | 9 => ("SilkMill$Store", "faultSkeins", "[I", true)
  | 10 => ("SilkMill$Store", "faultDays", "[I", true)
  | 11 => ("SilkMill$Store", "faultAmounts", "[I", true)
  | _ => ("SilkMill$Store", "mixer", "LSilkMill$Mixer;", true)
def tyX8 : Nat → FieldType := fun k => match k with
  | 0 => .int
  | 1 => .int
  | 2 => .int
  | 3 => .int
  | 4 => .int
  | 5 => .int
  | 6 => .int
  | 7 => .array .int
  | 8 => .array (.object "SilkMill$Skein")
  | 9 => .array .int
  | 10 => .array .int
  | 11 => .array .int
  | _ => .object "SilkMill$Mixer"
abbrev wsX80 : List Cond := u_ws RX8 TX8 13
theorem nmX8 : ∀ a, a < 13 → ∀ b, b < 13 → a ≠ b → (TX8 a).2.1 ≠ (TX8 b).2.1 := by decide +kernel
theorem tyX8_ok : ∀ k, k < 13 → parseFieldDescriptor (TX8 k).2.2.1 = some (tyX8 k) := by decide +kernel
abbrev cX8_init : ByteArray := prog_10_method_1_code
def yX8_init : MethodName := ⟨RX8, "<init>", "()V"⟩
abbrev cX8_skeinAt : ByteArray := prog_10_method_2_code
def yX8_skeinAt : MethodName := ⟨RX8, "skeinAt", "(I)LSilkMill$Skein;"⟩
abbrev cX8_keep : ByteArray := prog_10_method_3_code
def yX8_keep : MethodName := ⟨RX8, "keep", "(LSilkMill$Strand;II)I"⟩
abbrev cX8_priceOf : ByteArray := prog_10_method_4_code
def yX8_priceOf : MethodName := ⟨RX8, "priceOf", "(LSilkMill$Skein;)I"⟩
abbrev cX8_mixFor : ByteArray := prog_10_method_5_code
def yX8_mixFor : MethodName := ⟨RX8, "mixFor", "(IIIZ)I"⟩
abbrev cX8_markMix : ByteArray := prog_10_method_6_code
def yX8_markMix : MethodName := ⟨RX8, "markMix", "(Z)V"⟩
abbrev cX8_tellFault : ByteArray := prog_10_method_7_code
def yX8_tellFault : MethodName := ⟨RX8, "tellFault", "(II)Z"⟩
abbrev cX8_payFor : ByteArray := prog_10_method_8_code
def yX8_payFor : MethodName := ⟨RX8, "payFor", "(III)I"⟩
def RX9 : String := "SilkMill$Strand"
def TX9 : u_T := fun k => match k with
  | 0 => ("SilkMill$Strand", "fineness", "[I", true)
  | 1 => ("SilkMill$Strand", "endCounts", "[I", true)
  | 2 => ("SilkMill$Strand", "metres", "I", false)
  | 3 => ("SilkMill$Strand", "silk", "I", false)
  | 4 => ("SilkMill$Strand", "pieces", "I", false)
  | 5 => ("SilkMill$Strand", "codes", "[I", false)
  | 6 => ("SilkMill$Strand", "firsts", "[I", false)
  | 7 => ("SilkMill$Strand", "lengths", "[I", false)
  | _ => ("SilkMill$Strand", "places", "[I", false)
def tyX9 : Nat → FieldType := fun k => match k with
  | 0 => .array .int
  | 1 => .array .int
  | 2 => .int
  | 3 => .int
  | 4 => .int
  | 5 => .array .int
  | 6 => .array .int
  | 7 => .array .int
  | _ => .array .int
abbrev wsX90 : List Cond := u_ws RX9 TX9 9
theorem nmX9 : ∀ a, a < 9 → ∀ b, b < 9 → a ≠ b → (TX9 a).2.1 ≠ (TX9 b).2.1 := by decide +kernel
theorem tyX9_ok : ∀ k, k < 9 → parseFieldDescriptor (TX9 k).2.2.1 = some (tyX9 k) := by decide +kernel
abbrev cX9_init : ByteArray := prog_11_method_1_code
def yX9_init : MethodName := ⟨RX9, "<init>", "()V"⟩
abbrev cX9_init_ : ByteArray := prog_11_method_2_code
def yX9_init_ : MethodName := ⟨RX9, "<init>", "(LSilkMill$Strand;)V"⟩
abbrev cX9_beginAnew : ByteArray := prog_11_method_3_code
def yX9_beginAnew : MethodName := ⟨RX9, "beginAnew", "()V"⟩
abbrev cX9_addMetre : ByteArray := prog_11_method_4_code
def yX9_addMetre : MethodName := ⟨RX9, "addMetre", "(II)V"⟩
abbrev cX9_addMetreOf : ByteArray := prog_11_method_5_code
def yX9_addMetreOf : MethodName := ⟨RX9, "addMetreOf", "(LSilkMill$Cocoon;I)V"⟩
abbrev cX9_makeRoomForPiece : ByteArray := prog_11_method_6_code
def yX9_makeRoomForPiece : MethodName := ⟨RX9, "makeRoomForPiece", "()V"⟩
def RX10 : String := "SilkMill$Tape"
def TX10 : u_T := fun k => match k with
  | 0 => ("SilkMill$Tape", "size", "I", false)
  | 1 => ("SilkMill$Tape", "faultKind", "I", false)
  | 2 => ("SilkMill$Tape", "faultPlace", "I", false)
  | 3 => ("SilkMill$Tape", "bytes", "[B", true)
  | 4 => ("SilkMill$Tape", "token", "I", false)
  | 5 => ("SilkMill$Tape", "start", "I", false)
  | _ => ("SilkMill$Tape", "behind", "I", false)
def tyX10 : Nat → FieldType := fun k => match k with
  | 0 => .int
  | 1 => .int
  | 2 => .int
  | 3 => .array .byte
  | 4 => .int
  | 5 => .int
  | _ => .int
abbrev wsX100 : List Cond := u_ws RX10 TX10 7
theorem nmX10 : ∀ a, a < 7 → ∀ b, b < 7 → a ≠ b → (TX10 a).2.1 ≠ (TX10 b).2.1 := by decide +kernel
theorem tyX10_ok : ∀ k, k < 7 → parseFieldDescriptor (TX10 k).2.2.1 = some (tyX10 k) := by decide +kernel
abbrev cX10_init : ByteArray := prog_12_method_1_code
def yX10_init : MethodName := ⟨RX10, "<init>", "()V"⟩
abbrev cX10_append : ByteArray := prog_12_method_2_code
def yX10_append : MethodName := ⟨RX10, "append", "(I)V"⟩
abbrev cX10_forgetFault : ByteArray := prog_12_method_3_code
def yX10_forgetFault : MethodName := ⟨RX10, "forgetFault", "()V"⟩
abbrev cX10_readInto : ByteArray := prog_12_method_4_code
def yX10_readInto : MethodName := ⟨RX10, "readInto", "(LSilkMill$Rules;)Z"⟩
abbrev cX10_readRule : ByteArray := prog_12_method_5_code
def yX10_readRule : MethodName := ⟨RX10, "readRule", "(LSilkMill$Rules;)Z"⟩
abbrev cX10_readConditions : ByteArray := prog_12_method_6_code
def yX10_readConditions : MethodName := ⟨RX10, "readConditions", "(LSilkMill$Rules;)Z"⟩
abbrev cX10_readCondition : ByteArray := prog_12_method_7_code
def yX10_readCondition : MethodName := ⟨RX10, "readCondition", "(LSilkMill$Rules;)Z"⟩
abbrev cX10_readAct : ByteArray := prog_12_method_8_code
def yX10_readAct : MethodName := ⟨RX10, "readAct", "(LSilkMill$Rules;)Z"⟩
abbrev cX10_fail : ByteArray := prog_12_method_9_code
def yX10_fail : MethodName := ⟨RX10, "fail", "(I)Z"⟩
abbrev cX10_fieldAtHand : ByteArray := prog_12_method_10_code
def yX10_fieldAtHand : MethodName := ⟨RX10, "fieldAtHand", "()I"⟩
abbrev cX10_actAtHand : ByteArray := prog_12_method_11_code
def yX10_actAtHand : MethodName := ⟨RX10, "actAtHand", "()I"⟩
abbrev cX10_numberAtHand : ByteArray := prog_12_method_12_code
def yX10_numberAtHand : MethodName := ⟨RX10, "numberAtHand", "()I"⟩
abbrev cX10_isSign : ByteArray := prog_12_method_13_code
def yX10_isSign : MethodName := ⟨RX10, "isSign", "(C)Z"⟩
abbrev cX10_isWord : ByteArray := prog_12_method_14_code
def yX10_isWord : MethodName := ⟨RX10, "isWord", "(Ljava/lang/String;)Z"⟩
abbrev cX10_advance : ByteArray := prog_12_method_15_code
def yX10_advance : MethodName := ⟨RX10, "advance", "()V"⟩
abbrev cX10_byteAt : ByteArray := prog_12_method_16_code
def yX10_byteAt : MethodName := ⟨RX10, "byteAt", "(I)I"⟩
abbrev cX10_isBlank : ByteArray := prog_12_method_17_code
def yX10_isBlank : MethodName := ⟨RX10, "isBlank", "(I)Z"⟩
abbrev cX10_isLetter : ByteArray := prog_12_method_18_code
def yX10_isLetter : MethodName := ⟨RX10, "isLetter", "(I)Z"⟩
abbrev cX10_isDigit : ByteArray := prog_12_method_19_code
def yX10_isDigit : MethodName := ⟨RX10, "isDigit", "(I)Z"⟩
abbrev cX10_isSignByte : ByteArray := prog_12_method_20_code
def yX10_isSignByte : MethodName := ⟨RX10, "isSignByte", "(I)Z"⟩
def RX11 : String := "SilkMill"
def TX11 : u_T := fun k => match k with
  | 0 => ("SilkMill", "cocoons", "[LSilkMill$Cocoon;", true)
  | 1 => ("SilkMill", "lotSizes", "[I", true)
  | 2 => ("SilkMill", "lots", "I", false)
  | 3 => ("SilkMill", "pots", "[LSilkMill$Pot;", true)
  | 4 => ("SilkMill", "potsMade", "I", false)
  | 5 => ("SilkMill", "tape", "LSilkMill$Tape;", true)
  | 6 => ("SilkMill", "spareRules", "LSilkMill$Rules;", false)
  | 7 => ("SilkMill", "store", "LSilkMill$Store;", true)
  | 8 => ("SilkMill", "latestDraw", "LSilkMill$Draw;", true)
  | 9 => ("SilkMill", "shelf", "[LSilkMill$Place;", true)
  | 10 => ("SilkMill", "shelved", "I", false)
  | _ => ("SilkMill", "idle", "[I", true)
def tyX11 : Nat → FieldType := fun k => match k with
  | 0 => .array (.object "SilkMill$Cocoon")
  | 1 => .array .int
  | 2 => .int
  | 3 => .array (.object "SilkMill$Pot")
  | 4 => .int
  | 5 => .object "SilkMill$Tape"
  | 6 => .object "SilkMill$Rules"
  | 7 => .object "SilkMill$Store"
  | 8 => .object "SilkMill$Draw"
  | 9 => .array (.object "SilkMill$Place")
  | 10 => .int
  | _ => .array .int
abbrev wsX110 : List Cond := u_ws RX11 TX11 12
theorem nmX11 : ∀ a, a < 12 → ∀ b, b < 12 → a ≠ b → (TX11 a).2.1 ≠ (TX11 b).2.1 := by decide +kernel
theorem tyX11_ok : ∀ k, k < 12 → parseFieldDescriptor (TX11 k).2.2.1 = some (tyX11 k) := by decide +kernel
abbrev cX11_init : ByteArray := prog_1_method_1_code
def yX11_init : MethodName := ⟨RX11, "<init>", "()V"⟩
abbrev cX11_lot : ByteArray := prog_1_method_2_code
def yX11_lot : MethodName := ⟨RX11, "lot", "(IIIII)I"⟩
abbrev cX11_cocoon : ByteArray := prog_1_method_3_code
def yX11_cocoon : MethodName := ⟨RX11, "cocoon", "(III)I"⟩
abbrev cX11_fineness : ByteArray := prog_1_method_4_code
def yX11_fineness : MethodName := ⟨RX11, "fineness", "(III)I"⟩
abbrev cX11_test : ByteArray := prog_1_method_5_code
def yX11_test : MethodName := ⟨RX11, "test", "(III)I"⟩
abbrev cX11_pot : ByteArray := prog_1_method_6_code
def yX11_pot : MethodName := ⟨RX11, "pot", "(II)I"⟩
abbrev cX11_target : ByteArray := prog_1_method_7_code
def yX11_target : MethodName := ⟨RX11, "target", "(II)Z"⟩
abbrev cX11_fill : ByteArray := prog_1_method_8_code
def yX11_fill : MethodName := ⟨RX11, "fill", "(IIII)Z"⟩
abbrev cX11_feed : ByteArray := prog_1_method_9_code
def yX11_feed : MethodName := ⟨RX11, "feed", "(IIIII)I"⟩
abbrev cX11_end : ByteArray := prog_1_method_10_code
def yX11_end : MethodName := ⟨RX11, "end", "(I)I"⟩
abbrev cX11_program : ByteArray := prog_1_method_11_code
def yX11_program : MethodName := ⟨RX11, "program", "(I)I"⟩
abbrev cX11_place : ByteArray := prog_1_method_12_code
def yX11_place : MethodName := ⟨RX11, "place", "()I"⟩
abbrev cX11_run : ByteArray := prog_1_method_13_code
def yX11_run : MethodName := ⟨RX11, "run", "(II)I"⟩
abbrev cX11_about : ByteArray := prog_1_method_14_code
def yX11_about : MethodName := ⟨RX11, "about", "(II)I"⟩
abbrev cX11_in : ByteArray := prog_1_method_15_code
def yX11_in : MethodName := ⟨RX11, "in", "(III)I"⟩
abbrev cX11_cut : ByteArray := prog_1_method_16_code
def yX11_cut : MethodName := ⟨RX11, "cut", "(I)I"⟩
abbrev cX11_skein : ByteArray := prog_1_method_17_code
def yX11_skein : MethodName := ⟨RX11, "skein", "(II)I"⟩
abbrev cX11_metre : ByteArray := prog_1_method_18_code
def yX11_metre : MethodName := ⟨RX11, "metre", "(III)I"⟩
abbrev cX11_piece : ByteArray := prog_1_method_19_code
def yX11_piece : MethodName := ⟨RX11, "piece", "(III)I"⟩
abbrev cX11_grade : ByteArray := prog_1_method_20_code
def yX11_grade : MethodName := ⟨RX11, "grade", "(III)I"⟩
abbrev cX11_drawn : ByteArray := prog_1_method_21_code
def yX11_drawn : MethodName := ⟨RX11, "drawn", "(I)I"⟩
abbrev cX11_shelve : ByteArray := prog_1_method_22_code
def yX11_shelve : MethodName := ⟨RX11, "shelve", "(IIII)Z"⟩
abbrev cX11_take : ByteArray := prog_1_method_23_code
def yX11_take : MethodName := ⟨RX11, "take", "(II)I"⟩
abbrev cX11_copy : ByteArray := prog_1_method_24_code
def yX11_copy : MethodName := ⟨RX11, "copy", "(IIIII)Z"⟩
abbrev cX11_number : ByteArray := prog_1_method_25_code
def yX11_number : MethodName := ⟨RX11, "number", "(II)I"⟩
abbrev cX11_price : ByteArray := prog_1_method_26_code
def yX11_price : MethodName := ⟨RX11, "price", "(II)Z"⟩
abbrev cX11_mix : ByteArray := prog_1_method_27_code
def yX11_mix : MethodName := ⟨RX11, "mix", "(IIIZ)I"⟩
abbrev cX11_mixed : ByteArray := prog_1_method_28_code
def yX11_mixed : MethodName := ⟨RX11, "mixed", "(I)Z"⟩
abbrev cX11_day : ByteArray := prog_1_method_29_code
def yX11_day : MethodName := ⟨RX11, "day", "()I"⟩
abbrev cX11_fault : ByteArray := prog_1_method_30_code
def yX11_fault : MethodName := ⟨RX11, "fault", "(II)Z"⟩
abbrev cX11_pay : ByteArray := prog_1_method_31_code
def yX11_pay : MethodName := ⟨RX11, "pay", "(III)I"⟩
abbrev cX11_count : ByteArray := prog_1_method_32_code
def yX11_count : MethodName := ⟨RX11, "count", "(I)I"⟩
abbrev cX11_next : ByteArray := prog_1_method_33_code
def yX11_next : MethodName := ⟨RX11, "next", "(I)I"⟩
abbrev cX11_isWithin : ByteArray := prog_1_method_34_code
def yX11_isWithin : MethodName := ⟨RX11, "isWithin", "(III)Z"⟩
abbrev cX11_isTarget : ByteArray := prog_1_method_35_code
def yX11_isTarget : MethodName := ⟨RX11, "isTarget", "(I)Z"⟩
abbrev cX11_isStretch : ByteArray := prog_1_method_36_code
def yX11_isStretch : MethodName := ⟨RX11, "isStretch", "(III)Z"⟩
abbrev cX11_cocoonAt : ByteArray := prog_1_method_37_code
def yX11_cocoonAt : MethodName := ⟨RX11, "cocoonAt", "(II)LSilkMill$Cocoon;"⟩
abbrev cX11_potAt : ByteArray := prog_1_method_38_code
def yX11_potAt : MethodName := ⟨RX11, "potAt", "(I)LSilkMill$Pot;"⟩
abbrev cX11_shelfAt : ByteArray := prog_1_method_39_code
def yX11_shelfAt : MethodName := ⟨RX11, "shelfAt", "(I)LSilkMill$Place;"⟩
abbrev cX11_listIdle : ByteArray := prog_1_method_40_code
def yX11_listIdle : MethodName := ⟨RX11, "listIdle", "(I)I"⟩
abbrev cX11_silkThatGrows : ByteArray := prog_1_method_41_code
def yX11_silkThatGrows : MethodName := ⟨RX11, "silkThatGrows", "()I"⟩
def RX12 : String := "SilkMillModel"
def TX12 : u_T := fun k => match k with
  | 0 => ("SilkMillModel", "thrown", "I", false)
  | 1 => ("SilkMillModel", "lots", "I", false)
  | 2 => ("SilkMillModel", "lotMany", "[I", true)
  | 3 => ("SilkMillModel", "lotSeed", "[I", true)
  | 4 => ("SilkMillModel", "lotBase", "[I", true)
  | 5 => ("SilkMillModel", "lotLong", "[I", true)
  | 6 => ("SilkMillModel", "lotFrail", "[I", true)
  | 7 => ("SilkMillModel", "stand", "[I", true)
  | 8 => ("SilkMillModel", "place", "[I", true)
  | 9 => ("SilkMillModel", "potOf", "[I", true)
  | 10 => ("SilkMillModel", "thin", "[I", true)
  | 11 => ("SilkMillModel", "pots", "I", false)
  | 12 => ("SilkMillModel", "aim", "[I", true)
  | 13 => ("SilkMillModel", "find", "[I", true)
  | 14 => ("SilkMillModel", "search", "[I", true)
  | 15 => ("SilkMillModel", "stop", "[I", true)
  | 16 => ("SilkMillModel", "drawnEver", "[I", true)
  | 17 => ("SilkMillModel", "ticksEver", "[I", true)
  | 18 => ("SilkMillModel", "rowOf", "[I", true)
  | 19 => ("SilkMillModel", "rowMany", "[I", true)
  | 20 => ("SilkMillModel", "rules", "[I", true)
  | 21 => ("SilkMillModel", "act", "[I", true)
  | 22 => ("SilkMillModel", "actNumber", "[I", true)
  | 23 => ("SilkMillModel", "conditions", "[I", true)
  | 24 => ("SilkMillModel", "field", "[I", true)
  | 25 => ("SilkMillModel", "rel", "[I", true)
  | 26 => ("SilkMillModel", "than", "[I", true)
  | 27 => ("SilkMillModel", "tape", "[B", true)
  | 28 => ("SilkMillModel", "taped", "I", false)
  | 29 => ("SilkMillModel", "faultPlace", "I", false)
  | 30 => ("SilkMillModel", "faultKind", "I", false)
  | 31 => ("SilkMillModel", "kind", "I", false)
  | 32 => ("SilkMillModel", "from", "I", false)
  | 33 => ("SilkMillModel", "to", "I", false)
  | 34 => ("SilkMillModel", "value", "I", false)
  | 35 => ("SilkMillModel", "metreEnds", "[I", true)
  | 36 => ("SilkMillModel", "drawn", "[I", true)
  | 37 => ("SilkMillModel", "grown", "[I", true)
  | 38 => ("SilkMillModel", "skeins", "I", false)
  | 39 => ("SilkMillModel", "firstMetre", "[I", true)
  | 40 => ("SilkMillModel", "skeinPot", "[I", true)
  | 41 => ("SilkMillModel", "skeinDay", "[I", true)
  | 42 => ("SilkMillModel", "skeinAim", "[I", true)
  | 43 => ("SilkMillModel", "skeinGrade", "[I", true)
  | 44 => ("SilkMillModel", "isSold", "[Z", true)
  | 45 => ("SilkMillModel", "today", "I", false)
  | 46 => ("SilkMillModel", "waste", "I", false)
  | 47 => ("SilkMillModel", "cutAtOnce", "I", false)
  | 48 => ("SilkMillModel", "price", "[I", true)
  | 49 => ("SilkMillModel", "off", "I", false)
  | 50 => ("SilkMillModel", "bound", "I", false)
  | 51 => ("SilkMillModel", "draws", "I", false)
  | 52 => ("SilkMillModel", "draw", "[I", true)
  | 53 => ("SilkMillModel", "isLaid", "[Z", true)
  | 54 => ("SilkMillModel", "laid", "[I", true)
  | 55 => ("SilkMillModel", "laidValue", "[I", true)
  | 56 => ("SilkMillModel", "wordMany", "[I", true)
  | 57 => ("SilkMillModel", "wordOf", "[I", true)
  | 58 => ("SilkMillModel", "asked", "[I", true)
  | 59 => ("SilkMillModel", "askedWeight", "[I", true)
  | 60 => ("SilkMillModel", "askedPrice", "[I", true)
  | 61 => ("SilkMillModel", "isMixed", "[Z", true)
  | 62 => ("SilkMillModel", "faults", "I", false)
  | 63 => ("SilkMillModel", "faultOf", "[I", true)
  | 64 => ("SilkMillModel", "faultAmount", "[I", true)
  | _ => ("SilkMillModel", "faultDay", "[I", true)
def tyX12 : Nat → FieldType := fun k => match k with
  | 0 => .int
  | 1 => .int
  | 2 => .array .int
  | 3 => .array .int
  | 4 => .array .int
  | 5 => .array .int
  | 6 => .array .int
  | 7 => .array .int
  | 8 => .array .int
  | 9 => .array .int
  | 10 => .array .int
  | 11 => .int
  | 12 => .array .int
  | 13 => .array .int
  | 14 => .array .int
  | 15 => .array .int
  | 16 => .array .int
  | 17 => .array .int
  | 18 => .array .int
  | 19 => .array .int
  | 20 => .array .int
  | 21 => .array .int
  | 22 => .array .int
  | 23 => .array .int
  | 24 => .array .int
  | 25 => .array .int
  | 26 => .array .int
  | 27 => .array .byte
  | 28 => .int
  | 29 => .int
  | 30 => .int
  | 31 => .int
  | 32 => .int
  | 33 => .int
  | 34 => .int
  | 35 => .array .int
  | 36 => .array .int
  | 37 => .array .int
  | 38 => .int
  | 39 => .array .int
  | 40 => .array .int
  | 41 => .array .int
  | 42 => .array .int
  | 43 => .array .int
  | 44 => .array .boolean
  | 45 => .int
  | 46 => .int
  | 47 => .int
  | 48 => .array .int
  | 49 => .int
  | 50 => .int
  | 51 => .int
  | 52 => .array .int
  | 53 => .array .boolean
  | 54 => .array .int
  | 55 => .array .int
  | 56 => .array .int
  | 57 => .array .int
  | 58 => .array .int
  | 59 => .array .int
  | 60 => .array .int
  | 61 => .array .boolean
  | 62 => .int
  | 63 => .array .int
  | 64 => .array .int
  | _ => .array .int
abbrev wsX120 : List Cond := u_ws RX12 TX12 66
theorem nmX12 : ∀ a, a < 66 → ∀ b, b < 66 → a ≠ b → (TX12 a).2.1 ≠ (TX12 b).2.1 := by decide +kernel
theorem tyX12_ok : ∀ k, k < 66 → parseFieldDescriptor (TX12 k).2.2.1 = some (tyX12 k) := by decide +kernel
abbrev cX12_init : ByteArray := prog_14_method_1_code
def yX12_init : MethodName := ⟨RX12, "<init>", "()V"⟩
abbrev cX12_thrown : ByteArray := prog_14_method_2_code
def yX12_thrown : MethodName := ⟨RX12, "thrown", "()I"⟩
abbrev cX12_within : ByteArray := prog_14_method_3_code
def yX12_within : MethodName := ⟨RX12, "within", "(III)Z"⟩
abbrev cX12_next : ByteArray := prog_14_method_4_code
def yX12_next : MethodName := ⟨RX12, "next", "(I)I"⟩
abbrev cX12_part : ByteArray := prog_14_method_5_code
def yX12_part : MethodName := ⟨RX12, "part", "(II)I"⟩
abbrev cX12_lot : ByteArray := prog_14_method_6_code
def yX12_lot : MethodName := ⟨RX12, "lot", "(IIIII)I"⟩
abbrev cX12_isCocoon : ByteArray := prog_14_method_7_code
def yX12_isCocoon : MethodName := ⟨RX12, "isCocoon", "(II)Z"⟩
abbrev cX12_lengthOf : ByteArray := prog_14_method_8_code
def yX12_lengthOf : MethodName := ⟨RX12, "lengthOf", "(I)I"⟩
abbrev cX12_fineOf : ByteArray := prog_14_method_9_code
def yX12_fineOf : MethodName := ⟨RX12, "fineOf", "(II)I"⟩
abbrev cX12_breaks : ByteArray := prog_14_method_10_code
def yX12_breaks : MethodName := ⟨RX12, "breaks", "(II)Z"⟩
abbrev cX12_silk : ByteArray := prog_14_method_11_code
def yX12_silk : MethodName := ⟨RX12, "silk", "(III)I"⟩
abbrev cX12_cocoon : ByteArray := prog_14_method_12_code
def yX12_cocoon : MethodName := ⟨RX12, "cocoon", "(III)I"⟩
abbrev cX12_fineness : ByteArray := prog_14_method_13_code
def yX12_fineness : MethodName := ⟨RX12, "fineness", "(III)I"⟩
abbrev cX12_test : ByteArray := prog_14_method_14_code
def yX12_test : MethodName := ⟨RX12, "test", "(III)I"⟩
abbrev cX12_pot : ByteArray := prog_14_method_15_code
def yX12_pot : MethodName := ⟨RX12, "pot", "(II)I"⟩
abbrev cX12_isPot : ByteArray := prog_14_method_16_code
def yX12_isPot : MethodName := ⟨RX12, "isPot", "(I)Z"⟩
abbrev cX12_target : ByteArray := prog_14_method_17_code
def yX12_target : MethodName := ⟨RX12, "target", "(II)Z"⟩
abbrev cX12_at : ByteArray := prog_14_method_18_code
def yX12_at : MethodName := ⟨RX12, "at", "(III)I"⟩
abbrev cX12_many : ByteArray := prog_14_method_19_code
def yX12_many : MethodName := ⟨RX12, "many", "(II)I"⟩
abbrev cX12_comes : ByteArray := prog_14_method_20_code
def yX12_comes : MethodName := ⟨RX12, "comes", "(IIII)V"⟩
abbrev cX12_goes : ByteArray := prog_14_method_21_code
def yX12_goes : MethodName := ⟨RX12, "goes", "(III)I"⟩
abbrev cX12_fill : ByteArray := prog_14_method_22_code
def yX12_fill : MethodName := ⟨RX12, "fill", "(IIII)Z"⟩
abbrev cX12_feed : ByteArray := prog_14_method_23_code
def yX12_feed : MethodName := ⟨RX12, "feed", "(IIIII)I"⟩
abbrev cX12_end : ByteArray := prog_14_method_24_code
def yX12_end : MethodName := ⟨RX12, "end", "(I)I"⟩
abbrev cX12_byteAt : ByteArray := prog_14_method_25_code
def yX12_byteAt : MethodName := ⟨RX12, "byteAt", "(I)I"⟩
abbrev cX12_token : ByteArray := prog_14_method_26_code
def yX12_token : MethodName := ⟨RX12, "token", "()V"⟩
abbrev cX12_is : ByteArray := prog_14_method_27_code
def yX12_is : MethodName := ⟨RX12, "is", "(Ljava/lang/String;)Z"⟩
abbrev cX12_wrong : ByteArray := prog_14_method_28_code
def yX12_wrong : MethodName := ⟨RX12, "wrong", "(I)Z"⟩
abbrev cX12_must : ByteArray := prog_14_method_29_code
def yX12_must : MethodName := ⟨RX12, "must", "(Ljava/lang/String;)Z"⟩
abbrev cX12_which : ByteArray := prog_14_method_30_code
def yX12_which : MethodName := ⟨RX12, "which", "(Ljava/lang/String;)I"⟩
abbrev cX12_number : ByteArray := prog_14_method_31_code
def yX12_number : MethodName := ⟨RX12, "number", "()I"⟩
abbrev cX12_condition : ByteArray := prog_14_method_32_code
def yX12_condition : MethodName := ⟨RX12, "condition", "(I)Z"⟩
abbrev cX12_rule : ByteArray := prog_14_method_33_code
def yX12_rule : MethodName := ⟨RX12, "rule", "()Z"⟩
abbrev cX12_program : ByteArray := prog_14_method_34_code
def yX12_program : MethodName := ⟨RX12, "program", "(I)I"⟩
abbrev cX12_place : ByteArray := prog_14_method_35_code
def yX12_place : MethodName := ⟨RX12, "place", "()I"⟩
abbrev cX12_fineAt : ByteArray := prog_14_method_36_code
def yX12_fineAt : MethodName := ⟨RX12, "fineAt", "(I)I"⟩
abbrev cX12_weight : ByteArray := prog_14_method_37_code
def yX12_weight : MethodName := ⟨RX12, "weight", "(II)I"⟩
abbrev cX12_growing : ByteArray := prog_14_method_38_code
def yX12_growing : MethodName := ⟨RX12, "growing", "(I)I"⟩
abbrev cX12_cuts : ByteArray := prog_14_method_39_code
def yX12_cuts : MethodName := ⟨RX12, "cuts", "(I)I"⟩
abbrev cX12_cut : ByteArray := prog_14_method_40_code
def yX12_cut : MethodName := ⟨RX12, "cut", "(I)I"⟩
abbrev cX12_nowFine : ByteArray := prog_14_method_41_code
def yX12_nowFine : MethodName := ⟨RX12, "nowFine", "(I)I"⟩
abbrev cX12_thinnest : ByteArray := prog_14_method_42_code
def yX12_thinnest : MethodName := ⟨RX12, "thinnest", "(I)I"⟩
abbrev cX12_fieldOf : ByteArray := prog_14_method_43_code
def yX12_fieldOf : MethodName := ⟨RX12, "fieldOf", "(II)I"⟩
abbrev cX12_holds : ByteArray := prog_14_method_44_code
def yX12_holds : MethodName := ⟨RX12, "holds", "(II)Z"⟩
abbrev cX12_acts : ByteArray := prog_14_method_45_code
def yX12_acts : MethodName := ⟨RX12, "acts", "(II)V"⟩
abbrev cX12_tick : ByteArray := prog_14_method_46_code
def yX12_tick : MethodName := ⟨RX12, "tick", "(I)Z"⟩
abbrev cX12_run : ByteArray := prog_14_method_47_code
def yX12_run : MethodName := ⟨RX12, "run", "(II)I"⟩
abbrev cX12_about : ByteArray := prog_14_method_48_code
def yX12_about : MethodName := ⟨RX12, "about", "(II)I"⟩
abbrev cX12_in : ByteArray := prog_14_method_49_code
def yX12_in : MethodName := ⟨RX12, "in", "(III)I"⟩
abbrev cX12_isSkein : ByteArray := prog_14_method_50_code
def yX12_isSkein : MethodName := ⟨RX12, "isSkein", "(I)Z"⟩
abbrev cX12_metres : ByteArray := prog_14_method_51_code
def yX12_metres : MethodName := ⟨RX12, "metres", "(I)I"⟩
abbrev cX12_endOf : ByteArray := prog_14_method_52_code
def yX12_endOf : MethodName := ⟨RX12, "endOf", "(II)I"⟩
abbrev cX12_begins : ByteArray := prog_14_method_53_code
def yX12_begins : MethodName := ⟨RX12, "begins", "(III)Z"⟩
abbrev cX12_least : ByteArray := prog_14_method_54_code
def yX12_least : MethodName := ⟨RX12, "least", "(IZ)I"⟩
abbrev cX12_slips : ByteArray := prog_14_method_55_code
def yX12_slips : MethodName := ⟨RX12, "slips", "(I)I"⟩
abbrev cX12_pieces : ByteArray := prog_14_method_56_code
def yX12_pieces : MethodName := ⟨RX12, "pieces", "(I)I"⟩
abbrev cX12_gradeOf : ByteArray := prog_14_method_57_code
def yX12_gradeOf : MethodName := ⟨RX12, "gradeOf", "(I)I"⟩
abbrev cX12_weightOf : ByteArray := prog_14_method_58_code
def yX12_weightOf : MethodName := ⟨RX12, "weightOf", "(I)I"⟩
abbrev cX12_priceOf : ByteArray := prog_14_method_59_code
def yX12_priceOf : MethodName := ⟨RX12, "priceOf", "(I)I"⟩
abbrev cX12_skein : ByteArray := prog_14_method_60_code
def yX12_skein : MethodName := ⟨RX12, "skein", "(II)I"⟩
abbrev cX12_metre : ByteArray := prog_14_method_61_code
def yX12_metre : MethodName := ⟨RX12, "metre", "(III)I"⟩
abbrev cX12_piece : ByteArray := prog_14_method_62_code
def yX12_piece : MethodName := ⟨RX12, "piece", "(III)I"⟩
abbrev cX12_told : ByteArray := prog_14_method_63_code
def yX12_told : MethodName := ⟨RX12, "told", "(IIII)I"⟩
abbrev cX12_grade : ByteArray := prog_14_method_64_code
def yX12_grade : MethodName := ⟨RX12, "grade", "(III)I"⟩
abbrev cX12_isDrawn : ByteArray := prog_14_method_65_code
def yX12_isDrawn : MethodName := ⟨RX12, "isDrawn", "(II)Z"⟩
abbrev cX12_ways : ByteArray := prog_14_method_66_code
def yX12_ways : MethodName := ⟨RX12, "ways", "(II)J"⟩
abbrev cX12_drawn : ByteArray := prog_14_method_67_code
def yX12_drawn : MethodName := ⟨RX12, "drawn", "(I)I"⟩
abbrev cX12_shelve : ByteArray := prog_14_method_68_code
def yX12_shelve : MethodName := ⟨RX12, "shelve", "(IIII)Z"⟩
abbrev cX12_take : ByteArray := prog_14_method_69_code
def yX12_take : MethodName := ⟨RX12, "take", "(II)I"⟩
abbrev cX12_isWord : ByteArray := prog_14_method_70_code
def yX12_isWord : MethodName := ⟨RX12, "isWord", "(I)Z"⟩
abbrev cX12_copy : ByteArray := prog_14_method_71_code
def yX12_copy : MethodName := ⟨RX12, "copy", "(IIIII)Z"⟩
abbrev cX12_number_ : ByteArray := prog_14_method_72_code
def yX12_number_ : MethodName := ⟨RX12, "number", "(II)I"⟩
abbrev cX12_price : ByteArray := prog_14_method_73_code
def yX12_price : MethodName := ⟨RX12, "price", "(II)Z"⟩
abbrev cX12_mix : ByteArray := prog_14_method_74_code
def yX12_mix : MethodName := ⟨RX12, "mix", "(IIIZ)I"⟩
abbrev cX12_mixed : ByteArray := prog_14_method_75_code
def yX12_mixed : MethodName := ⟨RX12, "mixed", "(I)Z"⟩
abbrev cX12_day : ByteArray := prog_14_method_76_code
def yX12_day : MethodName := ⟨RX12, "day", "()I"⟩
abbrev cX12_fault : ByteArray := prog_14_method_77_code
def yX12_fault : MethodName := ⟨RX12, "fault", "(II)Z"⟩
abbrev cX12_pay : ByteArray := prog_14_method_78_code
def yX12_pay : MethodName := ⟨RX12, "pay", "(III)I"⟩
abbrev cX12_count : ByteArray := prog_14_method_79_code
def yX12_count : MethodName := ⟨RX12, "count", "(I)I"⟩
def RJx8e188 : String := "java/lang/Cloneable"
def TJx8e188 : u_T := fun k => match k with
  | _ => ("", "", "", false)
def tyJx8e188 : Nat → FieldType := fun k => match k with
  | _ => .int
abbrev wsJx8e1880 : List Cond := u_ws RJx8e188 TJx8e188 0
theorem nmJx8e188 : ∀ a, a < 0 → ∀ b, b < 0 → a ≠ b → (TJx8e188 a).2.1 ≠ (TJx8e188 b).2.1 := by decide +kernel
theorem tyJx8e188_ok : ∀ k, k < 0 → parseFieldDescriptor (TJx8e188 k).2.2.1 = some (tyJx8e188 k) := by decide +kernel
def RJ9 : String := "java/lang/Math"
def TJ9 : u_T := fun k => match k with
  | _ => ("", "", "", false)
def tyJ9 : Nat → FieldType := fun k => match k with
  | _ => .int
abbrev wsJ90 : List Cond := u_ws RJ9 TJ9 0
theorem nmJ9 : ∀ a, a < 0 → ∀ b, b < 0 → a ≠ b → (TJ9 a).2.1 ≠ (TJ9 b).2.1 := by decide +kernel
theorem tyJ9_ok : ∀ k, k < 0 → parseFieldDescriptor (TJ9 k).2.2.1 = some (tyJ9 k) := by decide +kernel
abbrev cJ9_abs_0f7a4 : ByteArray := prog_18_method_59_code
def yJ9_abs_0f7a4 : MethodName := ⟨RJ9, "abs", "(I)I"⟩
abbrev cJ9_max_7cf53 : ByteArray := prog_18_method_65_code
def yJ9_max_7cf53 : MethodName := ⟨RJ9, "max", "(II)I"⟩
abbrev cJ9_min_7cf53 : ByteArray := prog_18_method_69_code
def yJ9_min_7cf53 : MethodName := ⟨RJ9, "min", "(II)I"⟩
def RJ0 : String := "java/lang/String"
def TJ0 : u_T := fun k => match k with
  | _ => ("", "", "", false)
def tyJ0 : Nat → FieldType := fun k => match k with
  | _ => .int
abbrev wsJ00 : List Cond := u_ws RJ0 TJ0 0
theorem nmJ0 : ∀ a, a < 0 → ∀ b, b < 0 → a ≠ b → (TJ0 a).2.1 ≠ (TJ0 b).2.1 := by decide +kernel
theorem tyJ0_ok : ∀ k, k < 0 → parseFieldDescriptor (TJ0 k).2.2.1 = some (tyJ0 k) := by decide +kernel
abbrev cJ0_length_8abf5 : ByteArray := prog_20_method_54_code
def yJ0_length_8abf5 : MethodName := ⟨RJ0, "length", "()I"⟩
abbrev cJ0_charAt_5068e : ByteArray := prog_20_method_56_code
def yJ0_charAt_5068e : MethodName := ⟨RJ0, "charAt", "(I)C"⟩
abbrev cJ0_coder_7d493 : ByteArray := prog_20_method_152_code
def yJ0_coder_7d493 : MethodName := ⟨RJ0, "coder", "()B"⟩
abbrev cJ0_isLatin1_aae02 : ByteArray := prog_20_method_154_code
def yJ0_isLatin1_aae02 : MethodName := ⟨RJ0, "isLatin1", "()Z"⟩
abbrev cJ0_checkIndex_df160 : ByteArray := prog_20_method_155_code
def yJ0_checkIndex_df160 : MethodName := ⟨RJ0, "checkIndex", "(II)V"⟩
def RJ1 : String := "java/lang/StringLatin1"
def TJ1 : u_T := fun k => match k with
  | _ => ("", "", "", false)
def tyJ1 : Nat → FieldType := fun k => match k with
  | _ => .int
abbrev wsJ10 : List Cond := u_ws RJ1 TJ1 0
theorem nmJ1 : ∀ a, a < 0 → ∀ b, b < 0 → a ≠ b → (TJ1 a).2.1 ≠ (TJ1 b).2.1 := by decide +kernel
theorem tyJ1_ok : ∀ k, k < 0 → parseFieldDescriptor (TJ1 k).2.2.1 = some (tyJ1 k) := by decide +kernel
abbrev cJ1_charAt_3b067 : ByteArray := prog_21_method_2_code
def yJ1_charAt_3b067 : MethodName := ⟨RJ1, "charAt", "([BI)C"⟩
def RJ2 : String := "java/lang/StringUTF16"
def TJ2 : u_T := fun k => match k with
  | _ => ("", "", "", false)
def tyJ2 : Nat → FieldType := fun k => match k with
  | _ => .int
abbrev wsJ20 : List Cond := u_ws RJ2 TJ2 0
theorem nmJ2 : ∀ a, a < 0 → ∀ b, b < 0 → a ≠ b → (TJ2 a).2.1 ≠ (TJ2 b).2.1 := by decide +kernel
theorem tyJ2_ok : ∀ k, k < 0 → parseFieldDescriptor (TJ2 k).2.2.1 = some (tyJ2 k) := by decide +kernel
abbrev cJ2_getChar_3b067 : ByteArray := prog_22_method_5_code
def yJ2_getChar_3b067 : MethodName := ⟨RJ2, "getChar", "([BI)C"⟩
abbrev cJ2_length_9d52b : ByteArray := prog_22_method_6_code
def yJ2_length_9d52b : MethodName := ⟨RJ2, "length", "([B)I"⟩
abbrev cJ2_charAt_3b067 : ByteArray := prog_22_method_83_code
def yJ2_charAt_3b067 : MethodName := ⟨RJ2, "charAt", "([BI)C"⟩
abbrev cJ2_checkIndex_2214a : ByteArray := prog_22_method_91_code
def yJ2_checkIndex_2214a : MethodName := ⟨RJ2, "checkIndex", "(I[B)V"⟩
def RJ10 : String := "java/lang/System"
def TJ10 : u_T := fun k => match k with
  | _ => ("", "", "", false)
def tyJ10 : Nat → FieldType := fun k => match k with
  | _ => .int
abbrev wsJ100 : List Cond := u_ws RJ10 TJ10 0
theorem nmJ10 : ∀ a, a < 0 → ∀ b, b < 0 → a ≠ b → (TJ10 a).2.1 ≠ (TJ10 b).2.1 := by decide +kernel
theorem tyJ10_ok : ∀ k, k < 0 → parseFieldDescriptor (TJ10 k).2.2.1 = some (tyJ10 k) := by decide +kernel
def RJ7 : String := "java/util/Arrays"
def TJ7 : u_T := fun k => match k with
  | _ => ("", "", "", false)
def tyJ7 : Nat → FieldType := fun k => match k with
  | _ => .int
abbrev wsJ70 : List Cond := u_ws RJ7 TJ7 0
theorem nmJ7 : ∀ a, a < 0 → ∀ b, b < 0 → a ≠ b → (TJ7 a).2.1 ≠ (TJ7 b).2.1 := by decide +kernel
theorem tyJ7_ok : ∀ k, k < 0 → parseFieldDescriptor (TJ7 k).2.2.1 = some (tyJ7 k) := by decide +kernel
abbrev cJ7_fill_53178 : ByteArray := prog_25_method_103_code
def yJ7_fill_53178 : MethodName := ⟨RJ7, "fill", "([II)V"⟩
abbrev cJ7_copyOf_59c91 : ByteArray := prog_25_method_123_code
def yJ7_copyOf_59c91 : MethodName := ⟨RJ7, "copyOf", "([II)[I"⟩
def RJ3 : String := "jdk/internal/util/Preconditions"
def TJ3 : u_T := fun k => match k with
  | _ => ("", "", "", false)
def tyJ3 : Nat → FieldType := fun k => match k with
  | _ => .int
abbrev wsJ30 : List Cond := u_ws RJ3 TJ3 0
theorem nmJ3 : ∀ a, a < 0 → ∀ b, b < 0 → a ≠ b → (TJ3 a).2.1 ≠ (TJ3 b).2.1 := by decide +kernel
theorem tyJ3_ok : ∀ k, k < 0 → parseFieldDescriptor (TJ3 k).2.2.1 = some (tyJ3 k) := by decide +kernel
abbrev cJ3_checkIndex_8e157 : ByteArray := prog_27_method_11_code
def yJ3_checkIndex_8e157 : MethodName := ⟨RJ3, "checkIndex", "(IILjava/util/function/BiFunction;)I"⟩
def RL : String := "SilkMillLaw"
abbrev cL_fineness : ByteArray := method_3_code
def yL_fineness : MethodName := ⟨RL, "fineness", "(LSilkMill;III[J)I"⟩
abbrev cL_in : ByteArray := method_4_code
def yL_in : MethodName := ⟨RL, "in", "(LSilkMill;III[J)I"⟩
abbrev cL_law : ByteArray := code
def yL_law : MethodName := ⟨RL, "law", "([I)Z"⟩
def wsX11_next : List Cond := .code yX11_next cX11_next 1 (some .int) :: ([.constant RX11 380 (1103515245)])
def wsX0_init : List Cond := .code yX0_init cX0_init 8 none :: ([.methodLink RX0 3 objectInit, .instanceMethod objectInit, .code objectInit ⟨#[0xb1]⟩ 1 none, .fieldLink RX0 9 "SilkMill$Cocoon" "stand" "I", .fieldLink RX0 15 "SilkMill$Cocoon" "potNumber" "I", .fieldLink RX0 18 "SilkMill$Cocoon" "lotNumber" "I", .fieldLink RX0 21 "SilkMill$Cocoon" "index" "I", .fieldLink RX0 24 "SilkMill$Cocoon" "seed" "I", .fieldLink RX0 27 "SilkMill$Cocoon" "frail" "I", .methodLink RX0 34 Lib.Math.max.name, .static Lib.Math.max.name, .initialized "java/lang/Math", .code Lib.Math.max.name Lib.Math.max.code 2 (some .int), .fieldLink RX0 40 "SilkMill$Cocoon" "length" "I", .fieldLink RX0 43 "SilkMill$Cocoon" "base" "I", .static yX11_next, .initialized RX11, .code yX11_next cX11_next 1 (some .int), .constant RX11 380 (1103515245)] ++ wsX00)
def wsX0_code : List Cond := .code yX0_code cX0_code 1 (some .int) :: ([.fieldLink RX0 18 "SilkMill$Cocoon" "lotNumber" "I", .fieldLink RX0 21 "SilkMill$Cocoon" "index" "I"] ++ wsX00)
def wsX0_isInPot : List Cond := .code yX0_isInPot cX0_isInPot 1 (some .boolean) :: ([.fieldLink RX0 9 "SilkMill$Cocoon" "stand" "I"] ++ wsX00)
def wsX0_finenessAt : List Cond := .code yX0_finenessAt cX0_finenessAt 2 (some .int) :: ([.fieldLink RX0 40 "SilkMill$Cocoon" "length" "I", .fieldLink RX0 43 "SilkMill$Cocoon" "base" "I"] ++ wsX00)
def wsX0_silkBetween : List Cond := .code yX0_silkBetween cX0_silkBetween 5 (some .int) :: ([.methodLink RX0 50 yX0_finenessAt, .instanceMethod yX0_finenessAt, .selects RX0 yX0_finenessAt yX0_finenessAt, .initialized RX0, .code yX0_finenessAt cX0_finenessAt 2 (some .int), .fieldLink RX0 40 "SilkMill$Cocoon" "length" "I", .fieldLink RX0 43 "SilkMill$Cocoon" "base" "I"] ++ wsX00)
def wsX0_breaksAt : List Cond := .code yX0_breaksAt cX0_breaksAt 2 (some .boolean) :: ([.fieldLink RX0 24 "SilkMill$Cocoon" "seed" "I", .fieldLink RX0 21 "SilkMill$Cocoon" "index" "I", .fieldLink RX0 27 "SilkMill$Cocoon" "frail" "I", .static yX11_next, .initialized RX11, .code yX11_next cX11_next 1 (some .int), .constant RX11 380 (1103515245)] ++ wsX00)
def wsX0_breaksAnywhere : List Cond := .code yX0_breaksAnywhere cX0_breaksAnywhere 2 (some .boolean) :: ([.fieldLink RX0 40 "SilkMill$Cocoon" "length" "I", .methodLink RX0 53 yX0_breaksAt, .instanceMethod yX0_breaksAt, .selects RX0 yX0_breaksAt yX0_breaksAt, .initialized RX0, .code yX0_breaksAt cX0_breaksAt 2 (some .boolean), .fieldLink RX0 24 "SilkMill$Cocoon" "seed" "I", .fieldLink RX0 21 "SilkMill$Cocoon" "index" "I", .fieldLink RX0 27 "SilkMill$Cocoon" "frail" "I", .static yX11_next, .initialized RX11, .code yX11_next cX11_next 1 (some .int), .constant RX11 380 (1103515245)] ++ wsX00)
def wsX0_drawOneMetre : List Cond := .code yX0_drawOneMetre cX0_drawOneMetre 2 none :: ([.fieldLink RX0 57 "SilkMill$Cocoon" "drawnTo" "I", .fieldLink RX0 40 "SilkMill$Cocoon" "length" "I", .fieldLink RX0 9 "SilkMill$Cocoon" "stand" "I", .methodLink RX0 53 yX0_breaksAt, .instanceMethod yX0_breaksAt, .selects RX0 yX0_breaksAt yX0_breaksAt, .initialized RX0, .code yX0_breaksAt cX0_breaksAt 2 (some .boolean), .fieldLink RX0 24 "SilkMill$Cocoon" "seed" "I", .fieldLink RX0 21 "SilkMill$Cocoon" "index" "I", .fieldLink RX0 27 "SilkMill$Cocoon" "frail" "I", .static yX11_next, .initialized RX11, .code yX11_next cX11_next 1 (some .int), .constant RX11 380 (1103515245)] ++ wsX00)
def wsX1_init : List Cond := .code yX1_init cX1_init 1 none :: ([.methodLink RX1 3 objectInit, .instanceMethod objectInit, .code objectInit ⟨#[0xb1]⟩ 1 none, .arrayClass .int, .fieldLink RX1 9 "SilkMill$Draw" "metres" "[I"] ++ wsX10)
def wsX1_isDrawn : List Cond := .code yX1_isDrawn cX1_isDrawn 3 (some .boolean) :: ([.fieldLink RX1 15 "SilkMill$Draw" "size" "I", .fieldLink RX1 9 "SilkMill$Draw" "metres" "[I"] ++ wsX10)
def wsX1_notDrawnFrom : List Cond := .code yX1_notDrawnFrom cX1_notDrawnFrom 5 (some .int) :: ([.methodLink RX1 60 yX1_isDrawn, .instanceMethod yX1_isDrawn, .selects RX1 yX1_isDrawn yX1_isDrawn, .initialized RX1, .code yX1_isDrawn cX1_isDrawn 3 (some .boolean), .fieldLink RX1 15 "SilkMill$Draw" "size" "I", .fieldLink RX1 9 "SilkMill$Draw" "metres" "[I"] ++ wsX10)
def wsX1_waysInOrder : List Cond := .code yX1_waysInOrder cX1_waysInOrder 5 (some .long) :: ([])
def wsX1_boundOf : List Cond := .code yX1_boundOf cX1_boundOf 5 (some .int) :: ([.constantLong RX1 68 (20), .methodLink RX1 64 yX1_waysInOrder, .static yX1_waysInOrder, .initialized RX1, .code yX1_waysInOrder cX1_waysInOrder 5 (some .long)])
def wsX1_drawFrom_r1 : List Cond := [Cond.fieldLink RX1 15 "SilkMill$Draw" "size" "I", Cond.fieldLink RX1 19 "SilkMill$Draw" "off" "I", Cond.fieldLink RX1 22 "SilkMill$Skein" "strand" "LSilkMill$Strand;", Cond.fieldLink RX1 28 "SilkMill$Strand" "metres" "I", Cond.fieldLink RX1 9 "SilkMill$Draw" "metres" "[I", Cond.fieldLink RX1 40 "SilkMill$Strand" "fineness" "[I", Cond.fieldLink RX1 43 "SilkMill$Skein" "aim" "I", Cond.methodLink RX1 46 Lib.Math.abs.name, Cond.static Lib.Math.abs.name, Cond.initialized "java/lang/Math", Cond.code Lib.Math.abs.name Lib.Math.abs.code 1 (some .int), Cond.methodLink RX1 51 Lib.Math.max.name, Cond.static Lib.Math.max.name, Cond.code Lib.Math.max.name Lib.Math.max.code 2 (some .int), Cond.fieldLink RX1 57 "SilkMill$Draw" "bound" "I", Cond.static yX11_next, Cond.initialized RX11, Cond.code yX11_next cX11_next 1 (some .int), Cond.constant RX11 380 (1103515245), Cond.methodLink RX1 36 yX1_notDrawnFrom, Cond.instanceMethod yX1_notDrawnFrom, Cond.selects RX1 yX1_notDrawnFrom yX1_notDrawnFrom, Cond.initialized RX1, Cond.code yX1_notDrawnFrom cX1_notDrawnFrom 5 (some .int)]
def wsX1_drawFrom_r2 : List Cond := [Cond.methodLink RX1 60 yX1_isDrawn, Cond.instanceMethod yX1_isDrawn, Cond.selects RX1 yX1_isDrawn yX1_isDrawn, Cond.code yX1_isDrawn cX1_isDrawn 3 (some .boolean), Cond.methodLink RX1 54 yX1_boundOf, Cond.static yX1_boundOf, Cond.code yX1_boundOf cX1_boundOf 5 (some .int), Cond.constantLong RX1 68 (20), Cond.methodLink RX1 64 yX1_waysInOrder, Cond.static yX1_waysInOrder, Cond.code yX1_waysInOrder cX1_waysInOrder 5 (some .long)]
def wsX1_drawFrom : List Cond := .code yX1_drawFrom cX1_drawFrom 7 none :: ((wsX1_drawFrom_r1 ++ wsX1_drawFrom_r2) ++ wsX10 ++ wsX70 ++ wsX90)
def wsX1_gradeOfOff : List Cond := .code yX1_gradeOfOff cX1_gradeOfOff 1 (some .int) :: ([.fieldLink RX1 19 "SilkMill$Draw" "off" "I"] ++ wsX10)
def wsX2_init : List Cond := .code yX2_init cX2_init 1 none :: ([.methodLink RX2 3 objectInit, .instanceMethod objectInit, .code objectInit ⟨#[0xb1]⟩ 1 none, .arrayClass .int, .fieldLink RX2 9 "SilkMill$Mixer" "numbers" "[I", .fieldLink RX2 15 "SilkMill$Mixer" "weights" "[I", .fieldLink RX2 18 "SilkMill$Mixer" "prices" "[I"] ++ wsX20)
def wsX2_beginFor : List Cond := .code yX2_beginFor cX2_beginFor 2 none :: ([.fieldLink RX2 21 "SilkMill$Mixer" "size" "I", .fieldLink RX2 25 "SilkMill$Mixer" "offered" "I", .fieldLink RX2 28 "SilkMill$Mixer" "wanted" "I", .constant RX2 33 (2147483647), .fieldLink RX2 34 "SilkMill$Mixer" "bestPrice" "I", .fieldLink RX2 37 "SilkMill$Mixer" "bestSet" "I"] ++ wsX20)
def wsX2_offer : List Cond := .code yX2_offer cX2_offer 4 none :: ([.fieldLink RX2 21 "SilkMill$Mixer" "size" "I", .fieldLink RX2 9 "SilkMill$Mixer" "numbers" "[I", .fieldLink RX2 15 "SilkMill$Mixer" "weights" "[I", .fieldLink RX2 18 "SilkMill$Mixer" "prices" "[I", .fieldLink RX2 25 "SilkMill$Mixer" "offered" "I"] ++ wsX20)
def wsX2_seek : List Cond := .code yX2_seek cX2_seek 5 none :: ([.fieldLink RX2 28 "SilkMill$Mixer" "wanted" "I", .fieldLink RX2 34 "SilkMill$Mixer" "bestPrice" "I", .fieldLink RX2 21 "SilkMill$Mixer" "size" "I", .fieldLink RX2 37 "SilkMill$Mixer" "bestSet" "I", .fieldLink RX2 18 "SilkMill$Mixer" "prices" "[I", .fieldLink RX2 15 "SilkMill$Mixer" "weights" "[I", .methodLink RX2 40 yX2_seek, .static yX2_seek, .initialized RX2] ++ wsX20)
def wsX2_leastPrice : List Cond := .code yX2_leastPrice cX2_leastPrice 1 (some .int) :: ([.fieldLink RX2 25 "SilkMill$Mixer" "offered" "I", .fieldLink RX2 37 "SilkMill$Mixer" "bestSet" "I", .fieldLink RX2 34 "SilkMill$Mixer" "bestPrice" "I", .methodLink RX2 40 yX2_seek, .static yX2_seek, .initialized RX2, .code yX2_seek cX2_seek 5 none, .fieldLink RX2 28 "SilkMill$Mixer" "wanted" "I", .fieldLink RX2 21 "SilkMill$Mixer" "size" "I", .fieldLink RX2 18 "SilkMill$Mixer" "prices" "[I", .fieldLink RX2 15 "SilkMill$Mixer" "weights" "[I"] ++ wsX20)
def wsX2_isChosen : List Cond := .code yX2_isChosen cX2_isChosen 3 (some .boolean) :: ([.fieldLink RX2 21 "SilkMill$Mixer" "size" "I", .fieldLink RX2 9 "SilkMill$Mixer" "numbers" "[I", .fieldLink RX2 37 "SilkMill$Mixer" "bestSet" "I"] ++ wsX20)
def wsX3_init : List Cond := .code yX3_init cX3_init 1 none :: ([.methodLink RX3 3 objectInit, .instanceMethod objectInit, .code objectInit ⟨#[0xb1]⟩ 1 none, .fieldLink RX3 9 "SilkMill$Place" "kind" "I", .arrayClass .int, .fieldLink RX3 15 "SilkMill$Place" "word" "[I"] ++ wsX30)
def wsX3_hasRow : List Cond := .code yX3_hasRow cX3_hasRow 1 (some .boolean) :: ([.fieldLink RX3 9 "SilkMill$Place" "kind" "I", .fieldLink RX3 19 "SilkMill$Place" "wordSize" "I"] ++ wsX30)
def wsX3_putCocoon : List Cond := .code yX3_putCocoon cX3_putCocoon 2 (some .boolean) :: ([.fieldLink RX3 22 "SilkMill$Cocoon" "stand" "I", .fieldLink RX3 27 "SilkMill$Place" "cocoon" "LSilkMill$Cocoon;", .fieldLink RX3 9 "SilkMill$Place" "kind" "I"] ++ wsX00 ++ wsX30)
def wsX3_putNumber : List Cond := .code yX3_putNumber cX3_putNumber 2 (some .boolean) :: ([.fieldLink RX3 31 "SilkMill$Place" "number" "I", .fieldLink RX3 9 "SilkMill$Place" "kind" "I"] ++ wsX30)
def wsX11_isWithin : List Cond := .code yX11_isWithin cX11_isWithin 3 (some .boolean) :: ([])
def wsJ7_fill_53178 : List Cond := .code yJ7_fill_53178 cJ7_fill_53178 4 none :: ([])
def wsX3_putWord : List Cond := .code yX3_putWord cX3_putWord 3 (some .boolean) :: ([.fieldLink RX3 15 "SilkMill$Place" "word" "[I", .fieldLink RX3 19 "SilkMill$Place" "wordSize" "I", .fieldLink RX3 9 "SilkMill$Place" "kind" "I", .static yX11_isWithin, .initialized RX11, .code yX11_isWithin cX11_isWithin 3 (some .boolean), .methodLink RX3 38 yJ7_fill_53178, .static yJ7_fill_53178, .initialized RJ7, .code yJ7_fill_53178 cJ7_fill_53178 4 none] ++ wsX30)
def wsX3_sumOfWord : List Cond := .code yX3_sumOfWord cX3_sumOfWord 3 (some .int) :: ([.fieldLink RX3 19 "SilkMill$Place" "wordSize" "I", .fieldLink RX3 15 "SilkMill$Place" "word" "[I"] ++ wsX30)
def wsX3_returnCocoon : List Cond := .code yX3_returnCocoon cX3_returnCocoon 1 (some .int) :: ([.fieldLink RX3 27 "SilkMill$Place" "cocoon" "LSilkMill$Cocoon;", .fieldLink RX3 22 "SilkMill$Cocoon" "stand" "I", .methodLink RX3 51 yX0_code, .instanceMethod yX0_code, .selects RX0 yX0_code yX0_code, .initialized RX0, .code yX0_code cX0_code 1 (some .int), .fieldLink RX0 18 "SilkMill$Cocoon" "lotNumber" "I", .fieldLink RX0 21 "SilkMill$Cocoon" "index" "I"] ++ wsX30 ++ wsX00)
def wsX3_giveUp : List Cond := .code yX3_giveUp cX3_giveUp 2 (some .int) :: ([.fieldLink RX3 9 "SilkMill$Place" "kind" "I", .fieldLink RX3 31 "SilkMill$Place" "number" "I", .methodLink RX3 44 yX3_sumOfWord, .instanceMethod yX3_sumOfWord, .selects RX3 yX3_sumOfWord yX3_sumOfWord, .initialized RX3, .code yX3_sumOfWord cX3_sumOfWord 3 (some .int), .fieldLink RX3 19 "SilkMill$Place" "wordSize" "I", .fieldLink RX3 15 "SilkMill$Place" "word" "[I", .methodLink RX3 48 yX3_returnCocoon, .instanceMethod yX3_returnCocoon, .selects RX3 yX3_returnCocoon yX3_returnCocoon, .code yX3_returnCocoon cX3_returnCocoon 1 (some .int), .fieldLink RX3 27 "SilkMill$Place" "cocoon" "LSilkMill$Cocoon;", .fieldLink RX3 22 "SilkMill$Cocoon" "stand" "I", .methodLink RX3 51 yX0_code, .instanceMethod yX0_code, .selects RX0 yX0_code yX0_code, .initialized RX0, .code yX0_code cX0_code 1 (some .int), .fieldLink RX0 18 "SilkMill$Cocoon" "lotNumber" "I", .fieldLink RX0 21 "SilkMill$Cocoon" "index" "I"] ++ wsX30 ++ wsX00)
def wsX5_init : List Cond := .code yX5_init cX5_init 2 none :: ([.methodLink RX5 3 objectInit, .instanceMethod objectInit, .code objectInit ⟨#[0xb1]⟩ 1 none, .methodLink RX5 9 Lib.Math.max.name, .static Lib.Math.max.name, .initialized "java/lang/Math", .code Lib.Math.max.name Lib.Math.max.code 2 (some .int), .classLink RX5 15 RX0, .fieldLink RX5 17 "SilkMill$Row" "cells" "[LSilkMill$Cocoon;"] ++ wsX50)
def wsX9_init : List Cond := .code yX9_init cX9_init 1 none :: ([.methodLink RX9 3 objectInit, .instanceMethod objectInit, .code objectInit ⟨#[0xb1]⟩ 1 none, .arrayClass .int, .fieldLink RX9 9 "SilkMill$Strand" "fineness" "[I", .fieldLink RX9 15 "SilkMill$Strand" "endCounts" "[I", .fieldLink RX9 18 "SilkMill$Strand" "codes" "[I", .fieldLink RX9 21 "SilkMill$Strand" "firsts" "[I", .fieldLink RX9 24 "SilkMill$Strand" "lengths" "[I", .fieldLink RX9 27 "SilkMill$Strand" "places" "[I"] ++ wsX90)
def wsX6_init : List Cond := .code yX6_init cX6_init 1 none :: ([.methodLink RX6 3 objectInit, .instanceMethod objectInit, .code objectInit ⟨#[0xb1]⟩ 1 none, .arrayClass .int, .fieldLink RX6 9 "SilkMill$Rules" "acts" "[I", .fieldLink RX6 15 "SilkMill$Rules" "amounts" "[I", .fieldLink RX6 18 "SilkMill$Rules" "conditions" "[I", .fieldLink RX6 21 "SilkMill$Rules" "fields" "[I", .fieldLink RX6 24 "SilkMill$Rules" "relations" "[I", .fieldLink RX6 27 "SilkMill$Rules" "numbers" "[I"] ++ wsX60)
def wsX4_init_r1 : List Cond := [Cond.methodLink RX4 3 objectInit, Cond.instanceMethod objectInit, Cond.code objectInit ⟨#[0xb1]⟩ 1 none, Cond.classLink RX4 9 RX5, Cond.instantiable RX5 3, Cond.initialized RX5, Cond.fieldLink RX4 14 "SilkMill$Pot" "basket" "LSilkMill$Row;", Cond.fieldLink RX4 20 "SilkMill$Pot" "ends" "LSilkMill$Row;", Cond.fieldLink RX4 23 "SilkMill$Pot" "lost" "LSilkMill$Row;", Cond.classLink RX4 26 RX9, Cond.instantiable RX9 9, Cond.initialized RX9, Cond.fieldLink RX4 29 "SilkMill$Pot" "strand" "LSilkMill$Strand;", Cond.classLink RX4 33 RX6, Cond.instantiable RX6 7, Cond.initialized RX6, Cond.fieldLink RX4 36 "SilkMill$Pot" "rules" "LSilkMill$Rules;", Cond.fieldLink RX4 40 "SilkMill$Pot" "potNumber" "I", Cond.fieldLink RX4 44 "SilkMill$Pot" "aim" "I", Cond.fieldLink RX4 47 "SilkMill$Pot" "find" "I", Cond.methodLink RX4 11 yX5_init, Cond.instanceMethod yX5_init, Cond.code yX5_init cX5_init 2 none, Cond.methodLink RX5 3 objectInit]
def wsX4_init_r2 : List Cond := [Cond.methodLink RX5 9 Lib.Math.max.name, Cond.static Lib.Math.max.name, Cond.initialized "java/lang/Math", Cond.code Lib.Math.max.name Lib.Math.max.code 2 (some .int), Cond.classLink RX5 15 RX0, Cond.fieldLink RX5 17 "SilkMill$Row" "cells" "[LSilkMill$Cocoon;", Cond.methodLink RX4 28 yX9_init, Cond.instanceMethod yX9_init, Cond.code yX9_init cX9_init 1 none, Cond.methodLink RX9 3 objectInit, Cond.arrayClass .int, Cond.fieldLink RX9 9 "SilkMill$Strand" "fineness" "[I", Cond.fieldLink RX9 15 "SilkMill$Strand" "endCounts" "[I", Cond.fieldLink RX9 18 "SilkMill$Strand" "codes" "[I", Cond.fieldLink RX9 21 "SilkMill$Strand" "firsts" "[I", Cond.fieldLink RX9 24 "SilkMill$Strand" "lengths" "[I", Cond.fieldLink RX9 27 "SilkMill$Strand" "places" "[I", Cond.instanceMethod yX6_init, Cond.code yX6_init cX6_init 1 none, Cond.methodLink RX6 3 objectInit, Cond.fieldLink RX6 9 "SilkMill$Rules" "acts" "[I", Cond.fieldLink RX6 15 "SilkMill$Rules" "amounts" "[I", Cond.fieldLink RX6 18 "SilkMill$Rules" "conditions" "[I", Cond.fieldLink RX6 21 "SilkMill$Rules" "fields" "[I"]
def wsX4_init_r3 : List Cond := [Cond.fieldLink RX6 24 "SilkMill$Rules" "relations" "[I", Cond.fieldLink RX6 27 "SilkMill$Rules" "numbers" "[I"]
def wsX4_init : List Cond := .code yX4_init cX4_init 4 none :: ((wsX4_init_r1 ++ (wsX4_init_r2 ++ wsX4_init_r3)) ++ wsX50 ++ wsX40 ++ wsX90 ++ wsX60)
def wsX5_cellOf : List Cond := .code yX5_cellOf cX5_cellOf 3 (some .int) :: ([.fieldLink RX5 31 "SilkMill$Row" "head" "I", .fieldLink RX5 17 "SilkMill$Row" "cells" "[LSilkMill$Cocoon;"] ++ wsX50)
def wsX5_addLast : List Cond := .code yX5_addLast cX5_addLast 2 none :: ([.fieldLink RX5 23 "SilkMill$Row" "size" "I", .fieldLink RX5 17 "SilkMill$Row" "cells" "[LSilkMill$Cocoon;", .methodLink RX5 27 yX5_cellOf, .instanceMethod yX5_cellOf, .selects RX5 yX5_cellOf yX5_cellOf, .initialized RX5, .code yX5_cellOf cX5_cellOf 3 (some .int), .fieldLink RX5 31 "SilkMill$Row" "head" "I"] ++ wsX50)
def wsX4_receive : List Cond := .code yX4_receive cX4_receive 2 none :: ([.fieldLink RX4 40 "SilkMill$Pot" "potNumber" "I", .fieldLink RX4 50 "SilkMill$Cocoon" "potNumber" "I", .fieldLink RX4 53 "SilkMill$Cocoon" "stand" "I", .fieldLink RX4 14 "SilkMill$Pot" "basket" "LSilkMill$Row;", .methodLink RX4 56 yX5_addLast, .instanceMethod yX5_addLast, .selects RX5 yX5_addLast yX5_addLast, .initialized RX5, .code yX5_addLast cX5_addLast 2 none, .fieldLink RX5 23 "SilkMill$Row" "size" "I", .fieldLink RX5 17 "SilkMill$Row" "cells" "[LSilkMill$Cocoon;", .methodLink RX5 27 yX5_cellOf, .instanceMethod yX5_cellOf, .selects RX5 yX5_cellOf yX5_cellOf, .code yX5_cellOf cX5_cellOf 3 (some .int), .fieldLink RX5 31 "SilkMill$Row" "head" "I"] ++ wsX40 ++ wsX00 ++ wsX50)
def wsX4_rowNumbered : List Cond := .code yX4_rowNumbered cX4_rowNumbered 2 (some (.object "SilkMill$Row")) :: ([.fieldLink RX4 14 "SilkMill$Pot" "basket" "LSilkMill$Row;", .fieldLink RX4 20 "SilkMill$Pot" "ends" "LSilkMill$Row;", .fieldLink RX4 23 "SilkMill$Pot" "lost" "LSilkMill$Row;"] ++ wsX40)
def wsX5_removeFirst : List Cond := .code yX5_removeFirst cX5_removeFirst 2 (some (.object "SilkMill$Cocoon")) :: ([.fieldLink RX5 23 "SilkMill$Row" "size" "I", .fieldLink RX5 17 "SilkMill$Row" "cells" "[LSilkMill$Cocoon;", .fieldLink RX5 31 "SilkMill$Row" "head" "I", .methodLink RX5 27 yX5_cellOf, .instanceMethod yX5_cellOf, .selects RX5 yX5_cellOf yX5_cellOf, .initialized RX5, .code yX5_cellOf cX5_cellOf 3 (some .int)] ++ wsX50)
def wsX4_fetchLost : List Cond := .code yX4_fetchLost cX4_fetchLost 2 none :: ([.fieldLink RX4 23 "SilkMill$Pot" "lost" "LSilkMill$Row;", .fieldLink RX4 53 "SilkMill$Cocoon" "stand" "I", .fieldLink RX4 14 "SilkMill$Pot" "basket" "LSilkMill$Row;", .fieldLink RX4 73 "SilkMill$Row" "size" "I", .fieldLink RX4 91 "SilkMill$Pot" "search" "I", .methodLink RX4 97 yX5_removeFirst, .instanceMethod yX5_removeFirst, .selects RX5 yX5_removeFirst yX5_removeFirst, .initialized RX5, .code yX5_removeFirst cX5_removeFirst 2 (some (.object "SilkMill$Cocoon")), .fieldLink RX5 23 "SilkMill$Row" "size" "I", .fieldLink RX5 17 "SilkMill$Row" "cells" "[LSilkMill$Cocoon;", .fieldLink RX5 31 "SilkMill$Row" "head" "I", .methodLink RX5 27 yX5_cellOf, .instanceMethod yX5_cellOf, .selects RX5 yX5_cellOf yX5_cellOf, .code yX5_cellOf cX5_cellOf 3 (some .int), .methodLink RX4 56 yX5_addLast, .instanceMethod yX5_addLast, .selects RX5 yX5_addLast yX5_addLast, .code yX5_addLast cX5_addLast 2 none] ++ wsX40 ++ wsX00 ++ wsX50)
def wsX4_searchLost_r1 : List Cond := [Cond.fieldLink RX4 23 "SilkMill$Pot" "lost" "LSilkMill$Row;", Cond.fieldLink RX4 73 "SilkMill$Row" "size" "I", Cond.fieldLink RX4 91 "SilkMill$Pot" "search" "I", Cond.fieldLink RX4 47 "SilkMill$Pot" "find" "I", Cond.methodLink RX4 94 yX4_fetchLost, Cond.instanceMethod yX4_fetchLost, Cond.selects RX4 yX4_fetchLost yX4_fetchLost, Cond.initialized RX4, Cond.code yX4_fetchLost cX4_fetchLost 2 none, Cond.fieldLink RX4 53 "SilkMill$Cocoon" "stand" "I", Cond.fieldLink RX4 14 "SilkMill$Pot" "basket" "LSilkMill$Row;", Cond.methodLink RX4 97 yX5_removeFirst, Cond.instanceMethod yX5_removeFirst, Cond.selects RX5 yX5_removeFirst yX5_removeFirst, Cond.initialized RX5, Cond.code yX5_removeFirst cX5_removeFirst 2 (some (.object "SilkMill$Cocoon")), Cond.fieldLink RX5 23 "SilkMill$Row" "size" "I", Cond.fieldLink RX5 17 "SilkMill$Row" "cells" "[LSilkMill$Cocoon;", Cond.fieldLink RX5 31 "SilkMill$Row" "head" "I", Cond.methodLink RX5 27 yX5_cellOf, Cond.instanceMethod yX5_cellOf, Cond.selects RX5 yX5_cellOf yX5_cellOf, Cond.code yX5_cellOf cX5_cellOf 3 (some .int), Cond.methodLink RX4 56 yX5_addLast]
def wsX4_searchLost_r2 : List Cond := [Cond.instanceMethod yX5_addLast, Cond.selects RX5 yX5_addLast yX5_addLast, Cond.code yX5_addLast cX5_addLast 2 none]
def wsX4_searchLost : List Cond := .code yX4_searchLost cX4_searchLost 1 none :: ((wsX4_searchLost_r1 ++ wsX4_searchLost_r2) ++ wsX40 ++ wsX50 ++ wsX00)
def wsX5_at : List Cond := .code yX5_at cX5_at 2 (some (.object "SilkMill$Cocoon")) :: ([.fieldLink RX5 23 "SilkMill$Row" "size" "I", .fieldLink RX5 17 "SilkMill$Row" "cells" "[LSilkMill$Cocoon;", .methodLink RX5 27 yX5_cellOf, .instanceMethod yX5_cellOf, .selects RX5 yX5_cellOf yX5_cellOf, .initialized RX5, .code yX5_cellOf cX5_cellOf 3 (some .int), .fieldLink RX5 31 "SilkMill$Row" "head" "I"] ++ wsX50)
def wsX5_sumOfFineness : List Cond := .code yX5_sumOfFineness cX5_sumOfFineness 4 (some .int) :: ([.fieldLink RX5 23 "SilkMill$Row" "size" "I", .fieldLink RX5 38 "SilkMill$Cocoon" "drawnTo" "I", .methodLink RX5 34 yX5_at, .instanceMethod yX5_at, .selects RX5 yX5_at yX5_at, .initialized RX5, .code yX5_at cX5_at 2 (some (.object "SilkMill$Cocoon")), .fieldLink RX5 17 "SilkMill$Row" "cells" "[LSilkMill$Cocoon;", .methodLink RX5 27 yX5_cellOf, .instanceMethod yX5_cellOf, .selects RX5 yX5_cellOf yX5_cellOf, .code yX5_cellOf cX5_cellOf 3 (some .int), .fieldLink RX5 31 "SilkMill$Row" "head" "I", .methodLink RX5 41 yX0_finenessAt, .instanceMethod yX0_finenessAt, .selects RX0 yX0_finenessAt yX0_finenessAt, .initialized RX0, .code yX0_finenessAt cX0_finenessAt 2 (some .int), .fieldLink RX0 40 "SilkMill$Cocoon" "length" "I", .fieldLink RX0 43 "SilkMill$Cocoon" "base" "I"] ++ wsX50 ++ wsX00)
def wsX5_thinnest : List Cond := .code yX5_thinnest cX5_thinnest 5 (some .int) :: ([.constant RX5 46 (2147483647), .fieldLink RX5 23 "SilkMill$Row" "size" "I", .fieldLink RX5 38 "SilkMill$Cocoon" "drawnTo" "I", .methodLink RX5 34 yX5_at, .instanceMethod yX5_at, .selects RX5 yX5_at yX5_at, .initialized RX5, .code yX5_at cX5_at 2 (some (.object "SilkMill$Cocoon")), .fieldLink RX5 17 "SilkMill$Row" "cells" "[LSilkMill$Cocoon;", .methodLink RX5 27 yX5_cellOf, .instanceMethod yX5_cellOf, .selects RX5 yX5_cellOf yX5_cellOf, .code yX5_cellOf cX5_cellOf 3 (some .int), .fieldLink RX5 31 "SilkMill$Row" "head" "I", .methodLink RX5 41 yX0_finenessAt, .instanceMethod yX0_finenessAt, .selects RX0 yX0_finenessAt yX0_finenessAt, .initialized RX0, .code yX0_finenessAt cX0_finenessAt 2 (some .int), .fieldLink RX0 40 "SilkMill$Cocoon" "length" "I", .fieldLink RX0 43 "SilkMill$Cocoon" "base" "I"] ++ wsX50 ++ wsX00)
def wsX4_finenessOf : List Cond := .code yX4_finenessOf cX4_finenessOf 1 (some .int) :: ([.fieldLink RX4 180 "SilkMill$Cocoon" "drawnTo" "I", .methodLink RX4 189 yX0_finenessAt, .instanceMethod yX0_finenessAt, .selects RX0 yX0_finenessAt yX0_finenessAt, .initialized RX0, .code yX0_finenessAt cX0_finenessAt 2 (some .int), .fieldLink RX0 40 "SilkMill$Cocoon" "length" "I", .fieldLink RX0 43 "SilkMill$Cocoon" "base" "I"] ++ wsX00)
def wsX4_valueOf_r1 : List Cond := [Cond.fieldLink RX4 20 "SilkMill$Pot" "ends" "LSilkMill$Row;", Cond.fieldLink RX4 73 "SilkMill$Row" "size" "I", Cond.fieldLink RX4 14 "SilkMill$Pot" "basket" "LSilkMill$Row;", Cond.fieldLink RX4 23 "SilkMill$Pot" "lost" "LSilkMill$Row;", Cond.fieldLink RX4 29 "SilkMill$Pot" "strand" "LSilkMill$Strand;", Cond.fieldLink RX4 79 "SilkMill$Strand" "metres" "I", Cond.methodLink RX4 140 yX5_sumOfFineness, Cond.instanceMethod yX5_sumOfFineness, Cond.selects RX5 yX5_sumOfFineness yX5_sumOfFineness, Cond.initialized RX5, Cond.code yX5_sumOfFineness cX5_sumOfFineness 4 (some .int), Cond.fieldLink RX5 23 "SilkMill$Row" "size" "I", Cond.fieldLink RX5 38 "SilkMill$Cocoon" "drawnTo" "I", Cond.methodLink RX5 34 yX5_at, Cond.instanceMethod yX5_at, Cond.selects RX5 yX5_at yX5_at, Cond.code yX5_at cX5_at 2 (some (.object "SilkMill$Cocoon")), Cond.fieldLink RX5 17 "SilkMill$Row" "cells" "[LSilkMill$Cocoon;", Cond.methodLink RX5 27 yX5_cellOf, Cond.instanceMethod yX5_cellOf, Cond.selects RX5 yX5_cellOf yX5_cellOf, Cond.code yX5_cellOf cX5_cellOf 3 (some .int), Cond.fieldLink RX5 31 "SilkMill$Row" "head" "I", Cond.methodLink RX5 41 yX0_finenessAt]
def wsX4_valueOf_r2 : List Cond := [Cond.instanceMethod yX0_finenessAt, Cond.selects RX0 yX0_finenessAt yX0_finenessAt, Cond.initialized RX0, Cond.code yX0_finenessAt cX0_finenessAt 2 (some .int), Cond.fieldLink RX0 40 "SilkMill$Cocoon" "length" "I", Cond.fieldLink RX0 43 "SilkMill$Cocoon" "base" "I", Cond.methodLink RX4 144 yX5_thinnest, Cond.instanceMethod yX5_thinnest, Cond.selects RX5 yX5_thinnest yX5_thinnest, Cond.code yX5_thinnest cX5_thinnest 5 (some .int), Cond.constant RX5 46 (2147483647), Cond.methodLink RX4 147 yX5_at, Cond.methodLink RX4 151 yX4_finenessOf, Cond.static yX4_finenessOf, Cond.initialized RX4, Cond.code yX4_finenessOf cX4_finenessOf 1 (some .int), Cond.fieldLink RX4 180 "SilkMill$Cocoon" "drawnTo" "I", Cond.methodLink RX4 189 yX0_finenessAt]
def wsX4_valueOf : List Cond := .code yX4_valueOf cX4_valueOf 3 (some .int) :: ((wsX4_valueOf_r1 ++ wsX4_valueOf_r2) ++ wsX40 ++ wsX50 ++ wsX90 ++ wsX00)
def wsX4_isRelated : List Cond := .code yX4_isRelated cX4_isRelated 3 (some .boolean) :: ([])
def wsX4_allHold_r1 : List Cond := [Cond.fieldLink RX4 36 "SilkMill$Pot" "rules" "LSilkMill$Rules;", Cond.fieldLink RX4 120 "SilkMill$Rules" "conditions" "[I", Cond.fieldLink RX4 123 "SilkMill$Rules" "fields" "[I", Cond.fieldLink RX4 130 "SilkMill$Rules" "relations" "[I", Cond.fieldLink RX4 133 "SilkMill$Rules" "numbers" "[I", Cond.methodLink RX4 126 yX4_valueOf, Cond.instanceMethod yX4_valueOf, Cond.selects RX4 yX4_valueOf yX4_valueOf, Cond.initialized RX4, Cond.code yX4_valueOf cX4_valueOf 3 (some .int), Cond.fieldLink RX4 20 "SilkMill$Pot" "ends" "LSilkMill$Row;", Cond.fieldLink RX4 73 "SilkMill$Row" "size" "I", Cond.fieldLink RX4 14 "SilkMill$Pot" "basket" "LSilkMill$Row;", Cond.fieldLink RX4 23 "SilkMill$Pot" "lost" "LSilkMill$Row;", Cond.fieldLink RX4 29 "SilkMill$Pot" "strand" "LSilkMill$Strand;", Cond.fieldLink RX4 79 "SilkMill$Strand" "metres" "I", Cond.methodLink RX4 140 yX5_sumOfFineness, Cond.instanceMethod yX5_sumOfFineness, Cond.selects RX5 yX5_sumOfFineness yX5_sumOfFineness, Cond.initialized RX5, Cond.code yX5_sumOfFineness cX5_sumOfFineness 4 (some .int), Cond.fieldLink RX5 23 "SilkMill$Row" "size" "I", Cond.fieldLink RX5 38 "SilkMill$Cocoon" "drawnTo" "I", Cond.methodLink RX5 34 yX5_at]
def wsX4_allHold_r2 : List Cond := [Cond.instanceMethod yX5_at, Cond.selects RX5 yX5_at yX5_at, Cond.code yX5_at cX5_at 2 (some (.object "SilkMill$Cocoon")), Cond.fieldLink RX5 17 "SilkMill$Row" "cells" "[LSilkMill$Cocoon;", Cond.methodLink RX5 27 yX5_cellOf, Cond.instanceMethod yX5_cellOf, Cond.selects RX5 yX5_cellOf yX5_cellOf, Cond.code yX5_cellOf cX5_cellOf 3 (some .int), Cond.fieldLink RX5 31 "SilkMill$Row" "head" "I", Cond.methodLink RX5 41 yX0_finenessAt, Cond.instanceMethod yX0_finenessAt, Cond.selects RX0 yX0_finenessAt yX0_finenessAt, Cond.initialized RX0, Cond.code yX0_finenessAt cX0_finenessAt 2 (some .int), Cond.fieldLink RX0 40 "SilkMill$Cocoon" "length" "I", Cond.fieldLink RX0 43 "SilkMill$Cocoon" "base" "I", Cond.methodLink RX4 144 yX5_thinnest, Cond.instanceMethod yX5_thinnest, Cond.selects RX5 yX5_thinnest yX5_thinnest, Cond.code yX5_thinnest cX5_thinnest 5 (some .int), Cond.constant RX5 46 (2147483647), Cond.methodLink RX4 147 yX5_at, Cond.methodLink RX4 151 yX4_finenessOf, Cond.static yX4_finenessOf]
def wsX4_allHold_r3 : List Cond := [Cond.code yX4_finenessOf cX4_finenessOf 1 (some .int), Cond.fieldLink RX4 180 "SilkMill$Cocoon" "drawnTo" "I", Cond.methodLink RX4 189 yX0_finenessAt, Cond.methodLink RX4 136 yX4_isRelated, Cond.static yX4_isRelated, Cond.code yX4_isRelated cX4_isRelated 3 (some .boolean)]
def wsX4_allHold : List Cond := .code yX4_allHold cX4_allHold 6 (some .boolean) :: ((wsX4_allHold_r1 ++ (wsX4_allHold_r2 ++ wsX4_allHold_r3)) ++ wsX40 ++ wsX60 ++ wsX50 ++ wsX90 ++ wsX00)
def wsX4_castFirst : List Cond := .code yX4_castFirst cX4_castFirst 2 none :: ([.fieldLink RX4 14 "SilkMill$Pot" "basket" "LSilkMill$Row;", .fieldLink RX4 73 "SilkMill$Row" "size" "I", .fieldLink RX4 20 "SilkMill$Pot" "ends" "LSilkMill$Row;", .fieldLink RX4 53 "SilkMill$Cocoon" "stand" "I", .methodLink RX4 97 yX5_removeFirst, .instanceMethod yX5_removeFirst, .selects RX5 yX5_removeFirst yX5_removeFirst, .initialized RX5, .code yX5_removeFirst cX5_removeFirst 2 (some (.object "SilkMill$Cocoon")), .fieldLink RX5 23 "SilkMill$Row" "size" "I", .fieldLink RX5 17 "SilkMill$Row" "cells" "[LSilkMill$Cocoon;", .fieldLink RX5 31 "SilkMill$Row" "head" "I", .methodLink RX5 27 yX5_cellOf, .instanceMethod yX5_cellOf, .selects RX5 yX5_cellOf yX5_cellOf, .code yX5_cellOf cX5_cellOf 3 (some .int), .methodLink RX4 56 yX5_addLast, .instanceMethod yX5_addLast, .selects RX5 yX5_addLast yX5_addLast, .code yX5_addLast cX5_addLast 2 none] ++ wsX40 ++ wsX50 ++ wsX00)
def wsX5_removeAt : List Cond := .code yX5_removeAt cX5_removeAt 4 (some (.object "SilkMill$Cocoon")) :: ([.fieldLink RX5 23 "SilkMill$Row" "size" "I", .fieldLink RX5 17 "SilkMill$Row" "cells" "[LSilkMill$Cocoon;", .methodLink RX5 34 yX5_at, .instanceMethod yX5_at, .selects RX5 yX5_at yX5_at, .initialized RX5, .code yX5_at cX5_at 2 (some (.object "SilkMill$Cocoon")), .methodLink RX5 27 yX5_cellOf, .instanceMethod yX5_cellOf, .selects RX5 yX5_cellOf yX5_cellOf, .code yX5_cellOf cX5_cellOf 3 (some .int), .fieldLink RX5 31 "SilkMill$Row" "head" "I"] ++ wsX50)
def wsX5_addFirst : List Cond := .code yX5_addFirst cX5_addFirst 2 none :: ([.fieldLink RX5 23 "SilkMill$Row" "size" "I", .fieldLink RX5 17 "SilkMill$Row" "cells" "[LSilkMill$Cocoon;", .fieldLink RX5 31 "SilkMill$Row" "head" "I"] ++ wsX50)
def wsX4_dropThinnest_r1 : List Cond := [Cond.fieldLink RX4 20 "SilkMill$Pot" "ends" "LSilkMill$Row;", Cond.fieldLink RX4 53 "SilkMill$Cocoon" "stand" "I", Cond.fieldLink RX4 14 "SilkMill$Pot" "basket" "LSilkMill$Row;", Cond.methodLink RX4 144 yX5_thinnest, Cond.instanceMethod yX5_thinnest, Cond.selects RX5 yX5_thinnest yX5_thinnest, Cond.initialized RX5, Cond.code yX5_thinnest cX5_thinnest 5 (some .int), Cond.constant RX5 46 (2147483647), Cond.fieldLink RX5 23 "SilkMill$Row" "size" "I", Cond.fieldLink RX5 38 "SilkMill$Cocoon" "drawnTo" "I", Cond.methodLink RX5 34 yX5_at, Cond.instanceMethod yX5_at, Cond.selects RX5 yX5_at yX5_at, Cond.code yX5_at cX5_at 2 (some (.object "SilkMill$Cocoon")), Cond.fieldLink RX5 17 "SilkMill$Row" "cells" "[LSilkMill$Cocoon;", Cond.methodLink RX5 27 yX5_cellOf, Cond.instanceMethod yX5_cellOf, Cond.selects RX5 yX5_cellOf yX5_cellOf, Cond.code yX5_cellOf cX5_cellOf 3 (some .int), Cond.fieldLink RX5 31 "SilkMill$Row" "head" "I", Cond.methodLink RX5 41 yX0_finenessAt, Cond.instanceMethod yX0_finenessAt, Cond.selects RX0 yX0_finenessAt yX0_finenessAt]
def wsX4_dropThinnest_r2 : List Cond := [Cond.initialized RX0, Cond.code yX0_finenessAt cX0_finenessAt 2 (some .int), Cond.fieldLink RX0 40 "SilkMill$Cocoon" "length" "I", Cond.fieldLink RX0 43 "SilkMill$Cocoon" "base" "I", Cond.methodLink RX4 171 yX5_removeAt, Cond.instanceMethod yX5_removeAt, Cond.selects RX5 yX5_removeAt yX5_removeAt, Cond.code yX5_removeAt cX5_removeAt 4 (some (.object "SilkMill$Cocoon")), Cond.methodLink RX4 174 yX5_addFirst, Cond.instanceMethod yX5_addFirst, Cond.selects RX5 yX5_addFirst yX5_addFirst, Cond.code yX5_addFirst cX5_addFirst 2 none]
def wsX4_dropThinnest : List Cond := .code yX4_dropThinnest cX4_dropThinnest 2 none :: ((wsX4_dropThinnest_r1 ++ wsX4_dropThinnest_r2) ++ wsX40 ++ wsX00 ++ wsX50)
def wsX4_findFirst_r1 : List Cond := [Cond.fieldLink RX4 23 "SilkMill$Pot" "lost" "LSilkMill$Row;", Cond.fieldLink RX4 73 "SilkMill$Row" "size" "I", Cond.fieldLink RX4 66 "SilkMill$Pot" "stop" "I", Cond.methodLink RX4 94 yX4_fetchLost, Cond.instanceMethod yX4_fetchLost, Cond.selects RX4 yX4_fetchLost yX4_fetchLost, Cond.initialized RX4, Cond.code yX4_fetchLost cX4_fetchLost 2 none, Cond.fieldLink RX4 53 "SilkMill$Cocoon" "stand" "I", Cond.fieldLink RX4 14 "SilkMill$Pot" "basket" "LSilkMill$Row;", Cond.fieldLink RX4 91 "SilkMill$Pot" "search" "I", Cond.methodLink RX4 97 yX5_removeFirst, Cond.instanceMethod yX5_removeFirst, Cond.selects RX5 yX5_removeFirst yX5_removeFirst, Cond.initialized RX5, Cond.code yX5_removeFirst cX5_removeFirst 2 (some (.object "SilkMill$Cocoon")), Cond.fieldLink RX5 23 "SilkMill$Row" "size" "I", Cond.fieldLink RX5 17 "SilkMill$Row" "cells" "[LSilkMill$Cocoon;", Cond.fieldLink RX5 31 "SilkMill$Row" "head" "I", Cond.methodLink RX5 27 yX5_cellOf, Cond.instanceMethod yX5_cellOf, Cond.selects RX5 yX5_cellOf yX5_cellOf, Cond.code yX5_cellOf cX5_cellOf 3 (some .int), Cond.methodLink RX4 56 yX5_addLast]
def wsX4_findFirst_r2 : List Cond := [Cond.instanceMethod yX5_addLast, Cond.selects RX5 yX5_addLast yX5_addLast, Cond.code yX5_addLast cX5_addLast 2 none]
def wsX4_findFirst : List Cond := .code yX4_findFirst cX4_findFirst 1 none :: ((wsX4_findFirst_r1 ++ wsX4_findFirst_r2) ++ wsX40 ++ wsX50 ++ wsX00)
def wsX4_throwLast_r1 : List Cond := [Cond.fieldLink RX4 14 "SilkMill$Pot" "basket" "LSilkMill$Row;", Cond.fieldLink RX4 73 "SilkMill$Row" "size" "I", Cond.fieldLink RX4 53 "SilkMill$Cocoon" "stand" "I", Cond.fieldLink RX4 177 "SilkMill$Store" "silkThrown" "I", Cond.fieldLink RX4 180 "SilkMill$Cocoon" "drawnTo" "I", Cond.fieldLink RX4 183 "SilkMill$Cocoon" "length" "I", Cond.methodLink RX4 171 yX5_removeAt, Cond.instanceMethod yX5_removeAt, Cond.selects RX5 yX5_removeAt yX5_removeAt, Cond.initialized RX5, Cond.code yX5_removeAt cX5_removeAt 4 (some (.object "SilkMill$Cocoon")), Cond.fieldLink RX5 23 "SilkMill$Row" "size" "I", Cond.fieldLink RX5 17 "SilkMill$Row" "cells" "[LSilkMill$Cocoon;", Cond.methodLink RX5 34 yX5_at, Cond.instanceMethod yX5_at, Cond.selects RX5 yX5_at yX5_at, Cond.code yX5_at cX5_at 2 (some (.object "SilkMill$Cocoon")), Cond.methodLink RX5 27 yX5_cellOf, Cond.instanceMethod yX5_cellOf, Cond.selects RX5 yX5_cellOf yX5_cellOf, Cond.code yX5_cellOf cX5_cellOf 3 (some .int), Cond.fieldLink RX5 31 "SilkMill$Row" "head" "I", Cond.methodLink RX4 186 yX0_silkBetween, Cond.instanceMethod yX0_silkBetween]
def wsX4_throwLast_r2 : List Cond := [Cond.selects RX0 yX0_silkBetween yX0_silkBetween, Cond.initialized RX0, Cond.code yX0_silkBetween cX0_silkBetween 5 (some .int), Cond.methodLink RX0 50 yX0_finenessAt, Cond.instanceMethod yX0_finenessAt, Cond.selects RX0 yX0_finenessAt yX0_finenessAt, Cond.code yX0_finenessAt cX0_finenessAt 2 (some .int), Cond.fieldLink RX0 40 "SilkMill$Cocoon" "length" "I", Cond.fieldLink RX0 43 "SilkMill$Cocoon" "base" "I"]
def wsX4_throwLast : List Cond := .code yX4_throwLast cX4_throwLast 3 none :: ((wsX4_throwLast_r1 ++ wsX4_throwLast_r2) ++ wsX40 ++ wsX50 ++ wsX00 ++ wsX80)
def wsJ7_copyOf_59c91 : List Cond := .code yJ7_copyOf_59c91 cJ7_copyOf_59c91 3 (some (.array .int)) :: ([.methodLink RJ7 316 ⟨"[I", "clone", "()Ljava/lang/Object;"⟩, .sameMethod "[I" "java/lang/Object" "clone" "()Ljava/lang/Object;", .native ⟨"java/lang/Object", "clone", "()Ljava/lang/Object;"⟩, .instanceMethod ⟨"java/lang/Object", "clone", "()Ljava/lang/Object;"⟩, .selects "[I" ⟨"[I", "clone", "()Ljava/lang/Object;"⟩ ⟨"java/lang/Object", "clone", "()Ljava/lang/Object;"⟩, .classLink RJ7 317 "[I", .arrayClass .int, .methodLink RJ7 304 Lib.Math.min.name, .static Lib.Math.min.name, .initialized "java/lang/Math", .code Lib.Math.min.name Lib.Math.min.code 2 (some .int), .methodLink RJ7 150 arraycopyName, .native arraycopyName, .static arraycopyName, .initialized "java/lang/System"])
def wsX9_init__r1 : List Cond := [Cond.methodLink RX9 3 objectInit, Cond.instanceMethod objectInit, Cond.code objectInit ⟨#[0xb1]⟩ 1 none, Cond.fieldLink RX9 30 "SilkMill$Strand" "metres" "I", Cond.methodLink RX9 34 Lib.Math.max.name, Cond.static Lib.Math.max.name, Cond.initialized "java/lang/Math", Cond.code Lib.Math.max.name Lib.Math.max.code 2 (some .int), Cond.fieldLink RX9 40 "SilkMill$Strand" "silk" "I", Cond.fieldLink RX9 43 "SilkMill$Strand" "pieces" "I", Cond.fieldLink RX9 9 "SilkMill$Strand" "fineness" "[I", Cond.fieldLink RX9 15 "SilkMill$Strand" "endCounts" "[I", Cond.fieldLink RX9 18 "SilkMill$Strand" "codes" "[I", Cond.fieldLink RX9 21 "SilkMill$Strand" "firsts" "[I", Cond.fieldLink RX9 24 "SilkMill$Strand" "lengths" "[I", Cond.fieldLink RX9 27 "SilkMill$Strand" "places" "[I", Cond.methodLink RX9 46 yJ7_copyOf_59c91, Cond.static yJ7_copyOf_59c91, Cond.initialized RJ7, Cond.code yJ7_copyOf_59c91 cJ7_copyOf_59c91 3 (some (.array .int)), Cond.methodLink RJ7 316 ⟨"[I", "clone", "()Ljava/lang/Object;"⟩, Cond.sameMethod "[I" "java/lang/Object" "clone" "()Ljava/lang/Object;", Cond.native ⟨"java/lang/Object", "clone", "()Ljava/lang/Object;"⟩, Cond.instanceMethod ⟨"java/lang/Object", "clone", "()Ljava/lang/Object;"⟩]
def wsX9_init__r2 : List Cond := [Cond.selects "[I" ⟨"[I", "clone", "()Ljava/lang/Object;"⟩ ⟨"java/lang/Object", "clone", "()Ljava/lang/Object;"⟩, Cond.classLink RJ7 317 "[I", Cond.arrayClass .int, Cond.methodLink RJ7 304 Lib.Math.min.name, Cond.static Lib.Math.min.name, Cond.code Lib.Math.min.name Lib.Math.min.code 2 (some .int), Cond.methodLink RJ7 150 arraycopyName, Cond.native arraycopyName, Cond.static arraycopyName, Cond.initialized "java/lang/System"]
def wsX9_init_ : List Cond := .code yX9_init_ cX9_init_ 2 none :: ((wsX9_init__r1 ++ wsX9_init__r2) ++ wsX90)
def wsX7_init : List Cond := .code yX7_init cX7_init 10 none :: ([.methodLink RX7 3 objectInit, .instanceMethod objectInit, .code objectInit ⟨#[0xb1]⟩ 1 none, .fieldLink RX7 9 "SilkMill$Skein" "latestGrade" "I", .fieldLink RX7 15 "SilkMill$Skein" "strand" "LSilkMill$Strand;", .fieldLink RX7 19 "SilkMill$Skein" "potNumber" "I", .fieldLink RX7 22 "SilkMill$Skein" "aim" "I", .fieldLink RX7 25 "SilkMill$Skein" "dayCut" "I", .fieldLink RX7 28 "SilkMill$Strand" "fineness" "[I", .constant RX7 36 (2147483647), .methodLink RX7 37 Lib.Math.min.name, .static Lib.Math.min.name, .initialized "java/lang/Math", .code Lib.Math.min.name Lib.Math.min.code 2 (some .int), .methodLink RX7 43 Lib.Math.max.name, .static Lib.Math.max.name, .code Lib.Math.max.name Lib.Math.max.code 2 (some .int), .methodLink RX7 46 Lib.Math.abs.name, .static Lib.Math.abs.name, .code Lib.Math.abs.name Lib.Math.abs.code 1 (some .int), .fieldLink RX7 50 "SilkMill$Skein" "least" "I", .fieldLink RX7 53 "SilkMill$Skein" "greatest" "I", .fieldLink RX7 56 "SilkMill$Skein" "slips" "I"] ++ wsX70 ++ wsX90)
def wsX8_keep_r1 : List Cond := [Cond.fieldLink RX8 37 "SilkMill$Store" "kept" "I", Cond.fieldLink RX8 41 "SilkMill$Store" "waste" "I", Cond.fieldLink RX8 44 "SilkMill$Strand" "silk" "I", Cond.fieldLink RX8 17 "SilkMill$Store" "skeins" "[LSilkMill$Skein;", Cond.classLink RX8 15 RX7, Cond.instantiable RX7 10, Cond.initialized RX7, Cond.classLink RX8 45 RX9, Cond.instantiable RX9 9, Cond.initialized RX9, Cond.fieldLink RX8 52 "SilkMill$Store" "today" "I", Cond.fieldLink RX8 58 "SilkMill$Store" "silkKept" "I", Cond.methodLink RX8 49 yX9_init_, Cond.instanceMethod yX9_init_, Cond.code yX9_init_ cX9_init_ 2 none, Cond.methodLink RX9 3 objectInit, Cond.instanceMethod objectInit, Cond.code objectInit ⟨#[0xb1]⟩ 1 none, Cond.fieldLink RX9 30 "SilkMill$Strand" "metres" "I", Cond.methodLink RX9 34 Lib.Math.max.name, Cond.static Lib.Math.max.name, Cond.initialized "java/lang/Math", Cond.code Lib.Math.max.name Lib.Math.max.code 2 (some .int), Cond.fieldLink RX9 40 "SilkMill$Strand" "silk" "I"]
def wsX8_keep_r2 : List Cond := [Cond.fieldLink RX9 43 "SilkMill$Strand" "pieces" "I", Cond.fieldLink RX9 9 "SilkMill$Strand" "fineness" "[I", Cond.fieldLink RX9 15 "SilkMill$Strand" "endCounts" "[I", Cond.fieldLink RX9 18 "SilkMill$Strand" "codes" "[I", Cond.fieldLink RX9 21 "SilkMill$Strand" "firsts" "[I", Cond.fieldLink RX9 24 "SilkMill$Strand" "lengths" "[I", Cond.fieldLink RX9 27 "SilkMill$Strand" "places" "[I", Cond.methodLink RX9 46 yJ7_copyOf_59c91, Cond.static yJ7_copyOf_59c91, Cond.initialized RJ7, Cond.code yJ7_copyOf_59c91 cJ7_copyOf_59c91 3 (some (.array .int)), Cond.methodLink RJ7 316 ⟨"[I", "clone", "()Ljava/lang/Object;"⟩, Cond.sameMethod "[I" "java/lang/Object" "clone" "()Ljava/lang/Object;", Cond.native ⟨"java/lang/Object", "clone", "()Ljava/lang/Object;"⟩, Cond.instanceMethod ⟨"java/lang/Object", "clone", "()Ljava/lang/Object;"⟩, Cond.selects "[I" ⟨"[I", "clone", "()Ljava/lang/Object;"⟩ ⟨"java/lang/Object", "clone", "()Ljava/lang/Object;"⟩, Cond.classLink RJ7 317 "[I", Cond.arrayClass .int, Cond.methodLink RJ7 304 Lib.Math.min.name, Cond.static Lib.Math.min.name, Cond.code Lib.Math.min.name Lib.Math.min.code 2 (some .int), Cond.methodLink RJ7 150 arraycopyName, Cond.native arraycopyName, Cond.static arraycopyName]
def wsX8_keep_r3 : List Cond := [Cond.initialized "java/lang/System", Cond.methodLink RX8 55 yX7_init, Cond.instanceMethod yX7_init, Cond.code yX7_init cX7_init 10 none, Cond.methodLink RX7 3 objectInit, Cond.fieldLink RX7 9 "SilkMill$Skein" "latestGrade" "I", Cond.fieldLink RX7 15 "SilkMill$Skein" "strand" "LSilkMill$Strand;", Cond.fieldLink RX7 19 "SilkMill$Skein" "potNumber" "I", Cond.fieldLink RX7 22 "SilkMill$Skein" "aim" "I", Cond.fieldLink RX7 25 "SilkMill$Skein" "dayCut" "I", Cond.fieldLink RX7 28 "SilkMill$Strand" "fineness" "[I", Cond.constant RX7 36 (2147483647), Cond.methodLink RX7 37 Lib.Math.min.name, Cond.methodLink RX7 43 Lib.Math.max.name, Cond.methodLink RX7 46 Lib.Math.abs.name, Cond.static Lib.Math.abs.name, Cond.code Lib.Math.abs.name Lib.Math.abs.code 1 (some .int), Cond.fieldLink RX7 50 "SilkMill$Skein" "least" "I", Cond.fieldLink RX7 53 "SilkMill$Skein" "greatest" "I", Cond.fieldLink RX7 56 "SilkMill$Skein" "slips" "I"]
def wsX8_keep : List Cond := .code yX8_keep cX8_keep 4 (some .int) :: ((wsX8_keep_r1 ++ (wsX8_keep_r2 ++ wsX8_keep_r3)) ++ wsX80 ++ wsX90 ++ wsX70)
def wsX9_beginAnew : List Cond := .code yX9_beginAnew cX9_beginAnew 1 none :: ([.fieldLink RX9 30 "SilkMill$Strand" "metres" "I", .fieldLink RX9 40 "SilkMill$Strand" "silk" "I", .fieldLink RX9 43 "SilkMill$Strand" "pieces" "I"] ++ wsX90)
def wsX4_cutStrand_r1 : List Cond := [Cond.fieldLink RX4 29 "SilkMill$Pot" "strand" "LSilkMill$Strand;", Cond.fieldLink RX4 79 "SilkMill$Strand" "metres" "I", Cond.fieldLink RX4 40 "SilkMill$Pot" "potNumber" "I", Cond.fieldLink RX4 44 "SilkMill$Pot" "aim" "I", Cond.methodLink RX4 82 yX8_keep, Cond.instanceMethod yX8_keep, Cond.selects RX8 yX8_keep yX8_keep, Cond.initialized RX8, Cond.code yX8_keep cX8_keep 4 (some .int), Cond.fieldLink RX8 37 "SilkMill$Store" "kept" "I", Cond.fieldLink RX8 41 "SilkMill$Store" "waste" "I", Cond.fieldLink RX8 44 "SilkMill$Strand" "silk" "I", Cond.fieldLink RX8 17 "SilkMill$Store" "skeins" "[LSilkMill$Skein;", Cond.classLink RX8 15 RX7, Cond.instantiable RX7 10, Cond.initialized RX7, Cond.classLink RX8 45 RX9, Cond.instantiable RX9 9, Cond.initialized RX9, Cond.fieldLink RX8 52 "SilkMill$Store" "today" "I", Cond.fieldLink RX8 58 "SilkMill$Store" "silkKept" "I", Cond.methodLink RX8 49 yX9_init_, Cond.instanceMethod yX9_init_, Cond.code yX9_init_ cX9_init_ 2 none]
def wsX4_cutStrand_r2 : List Cond := [Cond.methodLink RX9 3 objectInit, Cond.instanceMethod objectInit, Cond.code objectInit ⟨#[0xb1]⟩ 1 none, Cond.fieldLink RX9 30 "SilkMill$Strand" "metres" "I", Cond.methodLink RX9 34 Lib.Math.max.name, Cond.static Lib.Math.max.name, Cond.initialized "java/lang/Math", Cond.code Lib.Math.max.name Lib.Math.max.code 2 (some .int), Cond.fieldLink RX9 40 "SilkMill$Strand" "silk" "I", Cond.fieldLink RX9 43 "SilkMill$Strand" "pieces" "I", Cond.fieldLink RX9 9 "SilkMill$Strand" "fineness" "[I", Cond.fieldLink RX9 15 "SilkMill$Strand" "endCounts" "[I", Cond.fieldLink RX9 18 "SilkMill$Strand" "codes" "[I", Cond.fieldLink RX9 21 "SilkMill$Strand" "firsts" "[I", Cond.fieldLink RX9 24 "SilkMill$Strand" "lengths" "[I", Cond.fieldLink RX9 27 "SilkMill$Strand" "places" "[I", Cond.methodLink RX9 46 yJ7_copyOf_59c91, Cond.static yJ7_copyOf_59c91, Cond.initialized RJ7, Cond.code yJ7_copyOf_59c91 cJ7_copyOf_59c91 3 (some (.array .int)), Cond.methodLink RJ7 316 ⟨"[I", "clone", "()Ljava/lang/Object;"⟩, Cond.sameMethod "[I" "java/lang/Object" "clone" "()Ljava/lang/Object;", Cond.native ⟨"java/lang/Object", "clone", "()Ljava/lang/Object;"⟩, Cond.instanceMethod ⟨"java/lang/Object", "clone", "()Ljava/lang/Object;"⟩]
def wsX4_cutStrand_r3 : List Cond := [Cond.selects "[I" ⟨"[I", "clone", "()Ljava/lang/Object;"⟩ ⟨"java/lang/Object", "clone", "()Ljava/lang/Object;"⟩, Cond.classLink RJ7 317 "[I", Cond.arrayClass .int, Cond.methodLink RJ7 304 Lib.Math.min.name, Cond.static Lib.Math.min.name, Cond.code Lib.Math.min.name Lib.Math.min.code 2 (some .int), Cond.methodLink RJ7 150 arraycopyName, Cond.native arraycopyName, Cond.static arraycopyName, Cond.initialized "java/lang/System", Cond.methodLink RX8 55 yX7_init, Cond.instanceMethod yX7_init, Cond.code yX7_init cX7_init 10 none, Cond.methodLink RX7 3 objectInit, Cond.fieldLink RX7 9 "SilkMill$Skein" "latestGrade" "I", Cond.fieldLink RX7 15 "SilkMill$Skein" "strand" "LSilkMill$Strand;", Cond.fieldLink RX7 19 "SilkMill$Skein" "potNumber" "I", Cond.fieldLink RX7 22 "SilkMill$Skein" "aim" "I", Cond.fieldLink RX7 25 "SilkMill$Skein" "dayCut" "I", Cond.fieldLink RX7 28 "SilkMill$Strand" "fineness" "[I", Cond.constant RX7 36 (2147483647), Cond.methodLink RX7 37 Lib.Math.min.name, Cond.methodLink RX7 43 Lib.Math.max.name, Cond.methodLink RX7 46 Lib.Math.abs.name]
def wsX4_cutStrand_r4 : List Cond := [Cond.static Lib.Math.abs.name, Cond.code Lib.Math.abs.name Lib.Math.abs.code 1 (some .int), Cond.fieldLink RX7 50 "SilkMill$Skein" "least" "I", Cond.fieldLink RX7 53 "SilkMill$Skein" "greatest" "I", Cond.fieldLink RX7 56 "SilkMill$Skein" "slips" "I", Cond.methodLink RX4 88 yX9_beginAnew, Cond.instanceMethod yX9_beginAnew, Cond.selects RX9 yX9_beginAnew yX9_beginAnew, Cond.code yX9_beginAnew cX9_beginAnew 1 none]
def wsX4_cutStrand : List Cond := .code yX4_cutStrand cX4_cutStrand 3 (some .int) :: ((wsX4_cutStrand_r1 ++ (wsX4_cutStrand_r2 ++ (wsX4_cutStrand_r3 ++ wsX4_cutStrand_r4))) ++ wsX40 ++ wsX90 ++ wsX80 ++ wsX70)
def wsX4_act_r1 : List Cond := [Cond.fieldLink RX4 66 "SilkMill$Pot" "stop" "I", Cond.methodLink RX4 155 yX4_castFirst, Cond.instanceMethod yX4_castFirst, Cond.selects RX4 yX4_castFirst yX4_castFirst, Cond.initialized RX4, Cond.code yX4_castFirst cX4_castFirst 2 none, Cond.fieldLink RX4 14 "SilkMill$Pot" "basket" "LSilkMill$Row;", Cond.fieldLink RX4 73 "SilkMill$Row" "size" "I", Cond.fieldLink RX4 20 "SilkMill$Pot" "ends" "LSilkMill$Row;", Cond.fieldLink RX4 53 "SilkMill$Cocoon" "stand" "I", Cond.methodLink RX4 97 yX5_removeFirst, Cond.instanceMethod yX5_removeFirst, Cond.selects RX5 yX5_removeFirst yX5_removeFirst, Cond.initialized RX5, Cond.code yX5_removeFirst cX5_removeFirst 2 (some (.object "SilkMill$Cocoon")), Cond.fieldLink RX5 23 "SilkMill$Row" "size" "I", Cond.fieldLink RX5 17 "SilkMill$Row" "cells" "[LSilkMill$Cocoon;", Cond.fieldLink RX5 31 "SilkMill$Row" "head" "I", Cond.methodLink RX5 27 yX5_cellOf, Cond.instanceMethod yX5_cellOf, Cond.selects RX5 yX5_cellOf yX5_cellOf, Cond.code yX5_cellOf cX5_cellOf 3 (some .int), Cond.methodLink RX4 56 yX5_addLast, Cond.instanceMethod yX5_addLast]
def wsX4_act_r2 : List Cond := [Cond.selects RX5 yX5_addLast yX5_addLast, Cond.code yX5_addLast cX5_addLast 2 none, Cond.methodLink RX4 158 yX4_dropThinnest, Cond.instanceMethod yX4_dropThinnest, Cond.selects RX4 yX4_dropThinnest yX4_dropThinnest, Cond.code yX4_dropThinnest cX4_dropThinnest 2 none, Cond.methodLink RX4 144 yX5_thinnest, Cond.instanceMethod yX5_thinnest, Cond.selects RX5 yX5_thinnest yX5_thinnest, Cond.code yX5_thinnest cX5_thinnest 5 (some .int), Cond.constant RX5 46 (2147483647), Cond.fieldLink RX5 38 "SilkMill$Cocoon" "drawnTo" "I", Cond.methodLink RX5 34 yX5_at, Cond.instanceMethod yX5_at, Cond.selects RX5 yX5_at yX5_at, Cond.code yX5_at cX5_at 2 (some (.object "SilkMill$Cocoon")), Cond.methodLink RX5 41 yX0_finenessAt, Cond.instanceMethod yX0_finenessAt, Cond.selects RX0 yX0_finenessAt yX0_finenessAt, Cond.initialized RX0, Cond.code yX0_finenessAt cX0_finenessAt 2 (some .int), Cond.fieldLink RX0 40 "SilkMill$Cocoon" "length" "I", Cond.fieldLink RX0 43 "SilkMill$Cocoon" "base" "I", Cond.methodLink RX4 171 yX5_removeAt]
def wsX4_act_r3 : List Cond := [Cond.instanceMethod yX5_removeAt, Cond.selects RX5 yX5_removeAt yX5_removeAt, Cond.code yX5_removeAt cX5_removeAt 4 (some (.object "SilkMill$Cocoon")), Cond.methodLink RX4 174 yX5_addFirst, Cond.instanceMethod yX5_addFirst, Cond.selects RX5 yX5_addFirst yX5_addFirst, Cond.code yX5_addFirst cX5_addFirst 2 none, Cond.methodLink RX4 161 yX4_findFirst, Cond.instanceMethod yX4_findFirst, Cond.selects RX4 yX4_findFirst yX4_findFirst, Cond.code yX4_findFirst cX4_findFirst 1 none, Cond.fieldLink RX4 23 "SilkMill$Pot" "lost" "LSilkMill$Row;", Cond.methodLink RX4 94 yX4_fetchLost, Cond.instanceMethod yX4_fetchLost, Cond.selects RX4 yX4_fetchLost yX4_fetchLost, Cond.code yX4_fetchLost cX4_fetchLost 2 none, Cond.fieldLink RX4 91 "SilkMill$Pot" "search" "I", Cond.methodLink RX4 164 yX4_throwLast, Cond.instanceMethod yX4_throwLast, Cond.selects RX4 yX4_throwLast yX4_throwLast, Cond.code yX4_throwLast cX4_throwLast 3 none, Cond.fieldLink RX4 177 "SilkMill$Store" "silkThrown" "I", Cond.fieldLink RX4 180 "SilkMill$Cocoon" "drawnTo" "I", Cond.fieldLink RX4 183 "SilkMill$Cocoon" "length" "I"]
def wsX4_act_r4 : List Cond := [Cond.methodLink RX4 186 yX0_silkBetween, Cond.instanceMethod yX0_silkBetween, Cond.selects RX0 yX0_silkBetween yX0_silkBetween, Cond.code yX0_silkBetween cX0_silkBetween 5 (some .int), Cond.methodLink RX0 50 yX0_finenessAt, Cond.methodLink RX4 167 yX4_cutStrand, Cond.instanceMethod yX4_cutStrand, Cond.selects RX4 yX4_cutStrand yX4_cutStrand, Cond.code yX4_cutStrand cX4_cutStrand 3 (some .int), Cond.fieldLink RX4 29 "SilkMill$Pot" "strand" "LSilkMill$Strand;", Cond.fieldLink RX4 79 "SilkMill$Strand" "metres" "I", Cond.fieldLink RX4 40 "SilkMill$Pot" "potNumber" "I", Cond.fieldLink RX4 44 "SilkMill$Pot" "aim" "I", Cond.methodLink RX4 82 yX8_keep, Cond.instanceMethod yX8_keep, Cond.selects RX8 yX8_keep yX8_keep, Cond.initialized RX8, Cond.code yX8_keep cX8_keep 4 (some .int), Cond.fieldLink RX8 37 "SilkMill$Store" "kept" "I", Cond.fieldLink RX8 41 "SilkMill$Store" "waste" "I", Cond.fieldLink RX8 44 "SilkMill$Strand" "silk" "I", Cond.fieldLink RX8 17 "SilkMill$Store" "skeins" "[LSilkMill$Skein;", Cond.classLink RX8 15 RX7, Cond.instantiable RX7 10]
def wsX4_act_r5 : List Cond := [Cond.initialized RX7, Cond.classLink RX8 45 RX9, Cond.instantiable RX9 9, Cond.initialized RX9, Cond.fieldLink RX8 52 "SilkMill$Store" "today" "I", Cond.fieldLink RX8 58 "SilkMill$Store" "silkKept" "I", Cond.methodLink RX8 49 yX9_init_, Cond.instanceMethod yX9_init_, Cond.code yX9_init_ cX9_init_ 2 none, Cond.methodLink RX9 3 objectInit, Cond.instanceMethod objectInit, Cond.code objectInit ⟨#[0xb1]⟩ 1 none, Cond.fieldLink RX9 30 "SilkMill$Strand" "metres" "I", Cond.methodLink RX9 34 Lib.Math.max.name, Cond.static Lib.Math.max.name, Cond.initialized "java/lang/Math", Cond.code Lib.Math.max.name Lib.Math.max.code 2 (some .int), Cond.fieldLink RX9 40 "SilkMill$Strand" "silk" "I", Cond.fieldLink RX9 43 "SilkMill$Strand" "pieces" "I", Cond.fieldLink RX9 9 "SilkMill$Strand" "fineness" "[I", Cond.fieldLink RX9 15 "SilkMill$Strand" "endCounts" "[I", Cond.fieldLink RX9 18 "SilkMill$Strand" "codes" "[I", Cond.fieldLink RX9 21 "SilkMill$Strand" "firsts" "[I", Cond.fieldLink RX9 24 "SilkMill$Strand" "lengths" "[I"]
def wsX4_act_r6 : List Cond := [Cond.fieldLink RX9 27 "SilkMill$Strand" "places" "[I", Cond.methodLink RX9 46 yJ7_copyOf_59c91, Cond.static yJ7_copyOf_59c91, Cond.initialized RJ7, Cond.code yJ7_copyOf_59c91 cJ7_copyOf_59c91 3 (some (.array .int)), Cond.methodLink RJ7 316 ⟨"[I", "clone", "()Ljava/lang/Object;"⟩, Cond.sameMethod "[I" "java/lang/Object" "clone" "()Ljava/lang/Object;", Cond.native ⟨"java/lang/Object", "clone", "()Ljava/lang/Object;"⟩, Cond.instanceMethod ⟨"java/lang/Object", "clone", "()Ljava/lang/Object;"⟩, Cond.selects "[I" ⟨"[I", "clone", "()Ljava/lang/Object;"⟩ ⟨"java/lang/Object", "clone", "()Ljava/lang/Object;"⟩, Cond.classLink RJ7 317 "[I", Cond.arrayClass .int, Cond.methodLink RJ7 304 Lib.Math.min.name, Cond.static Lib.Math.min.name, Cond.code Lib.Math.min.name Lib.Math.min.code 2 (some .int), Cond.methodLink RJ7 150 arraycopyName, Cond.native arraycopyName, Cond.static arraycopyName, Cond.initialized "java/lang/System", Cond.methodLink RX8 55 yX7_init, Cond.instanceMethod yX7_init, Cond.code yX7_init cX7_init 10 none, Cond.methodLink RX7 3 objectInit, Cond.fieldLink RX7 9 "SilkMill$Skein" "latestGrade" "I"]
def wsX4_act_r7 : List Cond := [Cond.fieldLink RX7 15 "SilkMill$Skein" "strand" "LSilkMill$Strand;", Cond.fieldLink RX7 19 "SilkMill$Skein" "potNumber" "I", Cond.fieldLink RX7 22 "SilkMill$Skein" "aim" "I", Cond.fieldLink RX7 25 "SilkMill$Skein" "dayCut" "I", Cond.fieldLink RX7 28 "SilkMill$Strand" "fineness" "[I", Cond.constant RX7 36 (2147483647), Cond.methodLink RX7 37 Lib.Math.min.name, Cond.methodLink RX7 43 Lib.Math.max.name, Cond.methodLink RX7 46 Lib.Math.abs.name, Cond.static Lib.Math.abs.name, Cond.code Lib.Math.abs.name Lib.Math.abs.code 1 (some .int), Cond.fieldLink RX7 50 "SilkMill$Skein" "least" "I", Cond.fieldLink RX7 53 "SilkMill$Skein" "greatest" "I", Cond.fieldLink RX7 56 "SilkMill$Skein" "slips" "I", Cond.methodLink RX4 88 yX9_beginAnew, Cond.instanceMethod yX9_beginAnew, Cond.selects RX9 yX9_beginAnew yX9_beginAnew, Cond.code yX9_beginAnew cX9_beginAnew 1 none]
def wsX4_act : List Cond := .code yX4_act cX4_act 4 none :: ((wsX4_act_r1 ++ (wsX4_act_r2 ++ (wsX4_act_r3 ++ (wsX4_act_r4 ++ (wsX4_act_r5 ++ (wsX4_act_r6 ++ wsX4_act_r7)))))) ++ wsX40 ++ wsX50 ++ wsX00 ++ wsX80 ++ wsX90 ++ wsX70)
def wsX4_applyRules_r1 : List Cond := [Cond.fieldLink RX4 36 "SilkMill$Pot" "rules" "LSilkMill$Rules;", Cond.fieldLink RX4 101 "SilkMill$Rules" "size" "I", Cond.fieldLink RX4 102 "SilkMill$Store" "today" "I", Cond.fieldLink RX4 109 "SilkMill$Rules" "acts" "[I", Cond.fieldLink RX4 113 "SilkMill$Rules" "amounts" "[I", Cond.methodLink RX4 105 yX4_allHold, Cond.instanceMethod yX4_allHold, Cond.selects RX4 yX4_allHold yX4_allHold, Cond.initialized RX4, Cond.code yX4_allHold cX4_allHold 6 (some .boolean), Cond.fieldLink RX4 120 "SilkMill$Rules" "conditions" "[I", Cond.fieldLink RX4 123 "SilkMill$Rules" "fields" "[I", Cond.fieldLink RX4 130 "SilkMill$Rules" "relations" "[I", Cond.fieldLink RX4 133 "SilkMill$Rules" "numbers" "[I", Cond.methodLink RX4 126 yX4_valueOf, Cond.instanceMethod yX4_valueOf, Cond.selects RX4 yX4_valueOf yX4_valueOf, Cond.code yX4_valueOf cX4_valueOf 3 (some .int), Cond.fieldLink RX4 20 "SilkMill$Pot" "ends" "LSilkMill$Row;", Cond.fieldLink RX4 73 "SilkMill$Row" "size" "I", Cond.fieldLink RX4 14 "SilkMill$Pot" "basket" "LSilkMill$Row;", Cond.fieldLink RX4 23 "SilkMill$Pot" "lost" "LSilkMill$Row;", Cond.fieldLink RX4 29 "SilkMill$Pot" "strand" "LSilkMill$Strand;", Cond.fieldLink RX4 79 "SilkMill$Strand" "metres" "I"]
def wsX4_applyRules_r2 : List Cond := [Cond.methodLink RX4 140 yX5_sumOfFineness, Cond.instanceMethod yX5_sumOfFineness, Cond.selects RX5 yX5_sumOfFineness yX5_sumOfFineness, Cond.initialized RX5, Cond.code yX5_sumOfFineness cX5_sumOfFineness 4 (some .int), Cond.fieldLink RX5 23 "SilkMill$Row" "size" "I", Cond.fieldLink RX5 38 "SilkMill$Cocoon" "drawnTo" "I", Cond.methodLink RX5 34 yX5_at, Cond.instanceMethod yX5_at, Cond.selects RX5 yX5_at yX5_at, Cond.code yX5_at cX5_at 2 (some (.object "SilkMill$Cocoon")), Cond.fieldLink RX5 17 "SilkMill$Row" "cells" "[LSilkMill$Cocoon;", Cond.methodLink RX5 27 yX5_cellOf, Cond.instanceMethod yX5_cellOf, Cond.selects RX5 yX5_cellOf yX5_cellOf, Cond.code yX5_cellOf cX5_cellOf 3 (some .int), Cond.fieldLink RX5 31 "SilkMill$Row" "head" "I", Cond.methodLink RX5 41 yX0_finenessAt, Cond.instanceMethod yX0_finenessAt, Cond.selects RX0 yX0_finenessAt yX0_finenessAt, Cond.initialized RX0, Cond.code yX0_finenessAt cX0_finenessAt 2 (some .int), Cond.fieldLink RX0 40 "SilkMill$Cocoon" "length" "I", Cond.fieldLink RX0 43 "SilkMill$Cocoon" "base" "I"]
def wsX4_applyRules_r3 : List Cond := [Cond.methodLink RX4 144 yX5_thinnest, Cond.instanceMethod yX5_thinnest, Cond.selects RX5 yX5_thinnest yX5_thinnest, Cond.code yX5_thinnest cX5_thinnest 5 (some .int), Cond.constant RX5 46 (2147483647), Cond.methodLink RX4 147 yX5_at, Cond.methodLink RX4 151 yX4_finenessOf, Cond.static yX4_finenessOf, Cond.code yX4_finenessOf cX4_finenessOf 1 (some .int), Cond.fieldLink RX4 180 "SilkMill$Cocoon" "drawnTo" "I", Cond.methodLink RX4 189 yX0_finenessAt, Cond.methodLink RX4 136 yX4_isRelated, Cond.static yX4_isRelated, Cond.code yX4_isRelated cX4_isRelated 3 (some .boolean), Cond.methodLink RX4 116 yX4_act, Cond.instanceMethod yX4_act, Cond.selects RX4 yX4_act yX4_act, Cond.code yX4_act cX4_act 4 none, Cond.fieldLink RX4 66 "SilkMill$Pot" "stop" "I", Cond.methodLink RX4 155 yX4_castFirst, Cond.instanceMethod yX4_castFirst, Cond.selects RX4 yX4_castFirst yX4_castFirst, Cond.code yX4_castFirst cX4_castFirst 2 none, Cond.fieldLink RX4 53 "SilkMill$Cocoon" "stand" "I"]
def wsX4_applyRules_r4 : List Cond := [Cond.methodLink RX4 97 yX5_removeFirst, Cond.instanceMethod yX5_removeFirst, Cond.selects RX5 yX5_removeFirst yX5_removeFirst, Cond.code yX5_removeFirst cX5_removeFirst 2 (some (.object "SilkMill$Cocoon")), Cond.methodLink RX4 56 yX5_addLast, Cond.instanceMethod yX5_addLast, Cond.selects RX5 yX5_addLast yX5_addLast, Cond.code yX5_addLast cX5_addLast 2 none, Cond.methodLink RX4 158 yX4_dropThinnest, Cond.instanceMethod yX4_dropThinnest, Cond.selects RX4 yX4_dropThinnest yX4_dropThinnest, Cond.code yX4_dropThinnest cX4_dropThinnest 2 none, Cond.methodLink RX4 171 yX5_removeAt, Cond.instanceMethod yX5_removeAt, Cond.selects RX5 yX5_removeAt yX5_removeAt, Cond.code yX5_removeAt cX5_removeAt 4 (some (.object "SilkMill$Cocoon")), Cond.methodLink RX4 174 yX5_addFirst, Cond.instanceMethod yX5_addFirst, Cond.selects RX5 yX5_addFirst yX5_addFirst, Cond.code yX5_addFirst cX5_addFirst 2 none, Cond.methodLink RX4 161 yX4_findFirst, Cond.instanceMethod yX4_findFirst, Cond.selects RX4 yX4_findFirst yX4_findFirst, Cond.code yX4_findFirst cX4_findFirst 1 none]
def wsX4_applyRules_r5 : List Cond := [Cond.methodLink RX4 94 yX4_fetchLost, Cond.instanceMethod yX4_fetchLost, Cond.selects RX4 yX4_fetchLost yX4_fetchLost, Cond.code yX4_fetchLost cX4_fetchLost 2 none, Cond.fieldLink RX4 91 "SilkMill$Pot" "search" "I", Cond.methodLink RX4 164 yX4_throwLast, Cond.instanceMethod yX4_throwLast, Cond.selects RX4 yX4_throwLast yX4_throwLast, Cond.code yX4_throwLast cX4_throwLast 3 none, Cond.fieldLink RX4 177 "SilkMill$Store" "silkThrown" "I", Cond.fieldLink RX4 183 "SilkMill$Cocoon" "length" "I", Cond.methodLink RX4 186 yX0_silkBetween, Cond.instanceMethod yX0_silkBetween, Cond.selects RX0 yX0_silkBetween yX0_silkBetween, Cond.code yX0_silkBetween cX0_silkBetween 5 (some .int), Cond.methodLink RX0 50 yX0_finenessAt, Cond.methodLink RX4 167 yX4_cutStrand, Cond.instanceMethod yX4_cutStrand, Cond.selects RX4 yX4_cutStrand yX4_cutStrand, Cond.code yX4_cutStrand cX4_cutStrand 3 (some .int), Cond.fieldLink RX4 40 "SilkMill$Pot" "potNumber" "I", Cond.fieldLink RX4 44 "SilkMill$Pot" "aim" "I", Cond.methodLink RX4 82 yX8_keep, Cond.instanceMethod yX8_keep]
def wsX4_applyRules_r6 : List Cond := [Cond.selects RX8 yX8_keep yX8_keep, Cond.initialized RX8, Cond.code yX8_keep cX8_keep 4 (some .int), Cond.fieldLink RX8 37 "SilkMill$Store" "kept" "I", Cond.fieldLink RX8 41 "SilkMill$Store" "waste" "I", Cond.fieldLink RX8 44 "SilkMill$Strand" "silk" "I", Cond.fieldLink RX8 17 "SilkMill$Store" "skeins" "[LSilkMill$Skein;", Cond.classLink RX8 15 RX7, Cond.instantiable RX7 10, Cond.initialized RX7, Cond.classLink RX8 45 RX9, Cond.instantiable RX9 9, Cond.initialized RX9, Cond.fieldLink RX8 52 "SilkMill$Store" "today" "I", Cond.fieldLink RX8 58 "SilkMill$Store" "silkKept" "I", Cond.methodLink RX8 49 yX9_init_, Cond.instanceMethod yX9_init_, Cond.code yX9_init_ cX9_init_ 2 none, Cond.methodLink RX9 3 objectInit, Cond.instanceMethod objectInit, Cond.code objectInit ⟨#[0xb1]⟩ 1 none, Cond.fieldLink RX9 30 "SilkMill$Strand" "metres" "I", Cond.methodLink RX9 34 Lib.Math.max.name, Cond.static Lib.Math.max.name]
def wsX4_applyRules_r7 : List Cond := [Cond.initialized "java/lang/Math", Cond.code Lib.Math.max.name Lib.Math.max.code 2 (some .int), Cond.fieldLink RX9 40 "SilkMill$Strand" "silk" "I", Cond.fieldLink RX9 43 "SilkMill$Strand" "pieces" "I", Cond.fieldLink RX9 9 "SilkMill$Strand" "fineness" "[I", Cond.fieldLink RX9 15 "SilkMill$Strand" "endCounts" "[I", Cond.fieldLink RX9 18 "SilkMill$Strand" "codes" "[I", Cond.fieldLink RX9 21 "SilkMill$Strand" "firsts" "[I", Cond.fieldLink RX9 24 "SilkMill$Strand" "lengths" "[I", Cond.fieldLink RX9 27 "SilkMill$Strand" "places" "[I", Cond.methodLink RX9 46 yJ7_copyOf_59c91, Cond.static yJ7_copyOf_59c91, Cond.initialized RJ7, Cond.code yJ7_copyOf_59c91 cJ7_copyOf_59c91 3 (some (.array .int)), Cond.methodLink RJ7 316 ⟨"[I", "clone", "()Ljava/lang/Object;"⟩, Cond.sameMethod "[I" "java/lang/Object" "clone" "()Ljava/lang/Object;", Cond.native ⟨"java/lang/Object", "clone", "()Ljava/lang/Object;"⟩, Cond.instanceMethod ⟨"java/lang/Object", "clone", "()Ljava/lang/Object;"⟩, Cond.selects "[I" ⟨"[I", "clone", "()Ljava/lang/Object;"⟩ ⟨"java/lang/Object", "clone", "()Ljava/lang/Object;"⟩, Cond.classLink RJ7 317 "[I", Cond.arrayClass .int, Cond.methodLink RJ7 304 Lib.Math.min.name, Cond.static Lib.Math.min.name, Cond.code Lib.Math.min.name Lib.Math.min.code 2 (some .int)]
def wsX4_applyRules_r8 : List Cond := [Cond.methodLink RJ7 150 arraycopyName, Cond.native arraycopyName, Cond.static arraycopyName, Cond.initialized "java/lang/System", Cond.methodLink RX8 55 yX7_init, Cond.instanceMethod yX7_init, Cond.code yX7_init cX7_init 10 none, Cond.methodLink RX7 3 objectInit, Cond.fieldLink RX7 9 "SilkMill$Skein" "latestGrade" "I", Cond.fieldLink RX7 15 "SilkMill$Skein" "strand" "LSilkMill$Strand;", Cond.fieldLink RX7 19 "SilkMill$Skein" "potNumber" "I", Cond.fieldLink RX7 22 "SilkMill$Skein" "aim" "I", Cond.fieldLink RX7 25 "SilkMill$Skein" "dayCut" "I", Cond.fieldLink RX7 28 "SilkMill$Strand" "fineness" "[I", Cond.constant RX7 36 (2147483647), Cond.methodLink RX7 37 Lib.Math.min.name, Cond.methodLink RX7 43 Lib.Math.max.name, Cond.methodLink RX7 46 Lib.Math.abs.name, Cond.static Lib.Math.abs.name, Cond.code Lib.Math.abs.name Lib.Math.abs.code 1 (some .int), Cond.fieldLink RX7 50 "SilkMill$Skein" "least" "I", Cond.fieldLink RX7 53 "SilkMill$Skein" "greatest" "I", Cond.fieldLink RX7 56 "SilkMill$Skein" "slips" "I", Cond.methodLink RX4 88 yX9_beginAnew]
def wsX4_applyRules_r9 : List Cond := [Cond.instanceMethod yX9_beginAnew, Cond.selects RX9 yX9_beginAnew yX9_beginAnew, Cond.code yX9_beginAnew cX9_beginAnew 1 none]
def wsX4_applyRules : List Cond := .code yX4_applyRules cX4_applyRules 3 none :: ((wsX4_applyRules_r1 ++ (wsX4_applyRules_r2 ++ (wsX4_applyRules_r3 ++ (wsX4_applyRules_r4 ++ (wsX4_applyRules_r5 ++ (wsX4_applyRules_r6 ++ (wsX4_applyRules_r7 ++ (wsX4_applyRules_r8 ++ wsX4_applyRules_r9)))))))) ++ wsX40 ++ wsX60 ++ wsX80 ++ wsX50 ++ wsX90 ++ wsX00 ++ wsX70)
def wsX9_addMetre : List Cond := .code yX9_addMetre cX9_addMetre 3 none :: ([.fieldLink RX9 30 "SilkMill$Strand" "metres" "I", .fieldLink RX9 9 "SilkMill$Strand" "fineness" "[I", .fieldLink RX9 15 "SilkMill$Strand" "endCounts" "[I", .fieldLink RX9 40 "SilkMill$Strand" "silk" "I"] ++ wsX90)
def wsX9_makeRoomForPiece_r1 : List Cond := [Cond.fieldLink RX9 43 "SilkMill$Strand" "pieces" "I", Cond.fieldLink RX9 18 "SilkMill$Strand" "codes" "[I", Cond.methodLink RX9 67 Lib.Math.min.name, Cond.static Lib.Math.min.name, Cond.initialized "java/lang/Math", Cond.code Lib.Math.min.name Lib.Math.min.code 2 (some .int), Cond.fieldLink RX9 21 "SilkMill$Strand" "firsts" "[I", Cond.fieldLink RX9 24 "SilkMill$Strand" "lengths" "[I", Cond.fieldLink RX9 27 "SilkMill$Strand" "places" "[I", Cond.methodLink RX9 46 yJ7_copyOf_59c91, Cond.static yJ7_copyOf_59c91, Cond.initialized RJ7, Cond.code yJ7_copyOf_59c91 cJ7_copyOf_59c91 3 (some (.array .int)), Cond.methodLink RJ7 316 ⟨"[I", "clone", "()Ljava/lang/Object;"⟩, Cond.sameMethod "[I" "java/lang/Object" "clone" "()Ljava/lang/Object;", Cond.native ⟨"java/lang/Object", "clone", "()Ljava/lang/Object;"⟩, Cond.instanceMethod ⟨"java/lang/Object", "clone", "()Ljava/lang/Object;"⟩, Cond.selects "[I" ⟨"[I", "clone", "()Ljava/lang/Object;"⟩ ⟨"java/lang/Object", "clone", "()Ljava/lang/Object;"⟩, Cond.classLink RJ7 317 "[I", Cond.arrayClass .int, Cond.methodLink RJ7 304 Lib.Math.min.name, Cond.methodLink RJ7 150 arraycopyName, Cond.native arraycopyName, Cond.static arraycopyName]
def wsX9_makeRoomForPiece_r2 : List Cond := [Cond.initialized "java/lang/System"]
def wsX9_makeRoomForPiece : List Cond := .code yX9_makeRoomForPiece cX9_makeRoomForPiece 2 none :: ((wsX9_makeRoomForPiece_r1 ++ wsX9_makeRoomForPiece_r2) ++ wsX90)
def wsX9_addMetreOf_r1 : List Cond := [Cond.fieldLink RX9 52 "SilkMill$Cocoon" "latestPiece" "I", Cond.fieldLink RX9 43 "SilkMill$Strand" "pieces" "I", Cond.fieldLink RX9 18 "SilkMill$Strand" "codes" "[I", Cond.fieldLink RX9 21 "SilkMill$Strand" "firsts" "[I", Cond.fieldLink RX9 24 "SilkMill$Strand" "lengths" "[I", Cond.fieldLink RX9 27 "SilkMill$Strand" "places" "[I", Cond.fieldLink RX9 64 "SilkMill$Cocoon" "drawnTo" "I", Cond.methodLink RX9 57 yX0_code, Cond.instanceMethod yX0_code, Cond.selects RX0 yX0_code yX0_code, Cond.initialized RX0, Cond.code yX0_code cX0_code 1 (some .int), Cond.fieldLink RX0 18 "SilkMill$Cocoon" "lotNumber" "I", Cond.fieldLink RX0 21 "SilkMill$Cocoon" "index" "I", Cond.methodLink RX9 61 yX9_makeRoomForPiece, Cond.instanceMethod yX9_makeRoomForPiece, Cond.selects RX9 yX9_makeRoomForPiece yX9_makeRoomForPiece, Cond.initialized RX9, Cond.code yX9_makeRoomForPiece cX9_makeRoomForPiece 2 none, Cond.methodLink RX9 67 Lib.Math.min.name, Cond.static Lib.Math.min.name, Cond.initialized "java/lang/Math", Cond.code Lib.Math.min.name Lib.Math.min.code 2 (some .int), Cond.methodLink RX9 46 yJ7_copyOf_59c91]
def wsX9_addMetreOf_r2 : List Cond := [Cond.static yJ7_copyOf_59c91, Cond.initialized RJ7, Cond.code yJ7_copyOf_59c91 cJ7_copyOf_59c91 3 (some (.array .int)), Cond.methodLink RJ7 316 ⟨"[I", "clone", "()Ljava/lang/Object;"⟩, Cond.sameMethod "[I" "java/lang/Object" "clone" "()Ljava/lang/Object;", Cond.native ⟨"java/lang/Object", "clone", "()Ljava/lang/Object;"⟩, Cond.instanceMethod ⟨"java/lang/Object", "clone", "()Ljava/lang/Object;"⟩, Cond.selects "[I" ⟨"[I", "clone", "()Ljava/lang/Object;"⟩ ⟨"java/lang/Object", "clone", "()Ljava/lang/Object;"⟩, Cond.classLink RJ7 317 "[I", Cond.arrayClass .int, Cond.methodLink RJ7 304 Lib.Math.min.name, Cond.methodLink RJ7 150 arraycopyName, Cond.native arraycopyName, Cond.static arraycopyName, Cond.initialized "java/lang/System"]
def wsX9_addMetreOf : List Cond := .code yX9_addMetreOf cX9_addMetreOf 4 none :: ((wsX9_addMetreOf_r1 ++ wsX9_addMetreOf_r2) ++ wsX00 ++ wsX90)
def wsX4_drawEnd_r1 : List Cond := [Cond.fieldLink RX4 29 "SilkMill$Pot" "strand" "LSilkMill$Strand;", Cond.fieldLink RX4 53 "SilkMill$Cocoon" "stand" "I", Cond.fieldLink RX4 20 "SilkMill$Pot" "ends" "LSilkMill$Row;", Cond.fieldLink RX4 23 "SilkMill$Pot" "lost" "LSilkMill$Row;", Cond.methodLink RX4 207 yX9_addMetreOf, Cond.instanceMethod yX9_addMetreOf, Cond.selects RX9 yX9_addMetreOf yX9_addMetreOf, Cond.initialized RX9, Cond.code yX9_addMetreOf cX9_addMetreOf 4 none, Cond.fieldLink RX9 52 "SilkMill$Cocoon" "latestPiece" "I", Cond.fieldLink RX9 43 "SilkMill$Strand" "pieces" "I", Cond.fieldLink RX9 18 "SilkMill$Strand" "codes" "[I", Cond.fieldLink RX9 21 "SilkMill$Strand" "firsts" "[I", Cond.fieldLink RX9 24 "SilkMill$Strand" "lengths" "[I", Cond.fieldLink RX9 27 "SilkMill$Strand" "places" "[I", Cond.fieldLink RX9 64 "SilkMill$Cocoon" "drawnTo" "I", Cond.methodLink RX9 57 yX0_code, Cond.instanceMethod yX0_code, Cond.selects RX0 yX0_code yX0_code, Cond.initialized RX0, Cond.code yX0_code cX0_code 1 (some .int), Cond.fieldLink RX0 18 "SilkMill$Cocoon" "lotNumber" "I", Cond.fieldLink RX0 21 "SilkMill$Cocoon" "index" "I", Cond.methodLink RX9 61 yX9_makeRoomForPiece]
def wsX4_drawEnd_r2 : List Cond := [Cond.instanceMethod yX9_makeRoomForPiece, Cond.selects RX9 yX9_makeRoomForPiece yX9_makeRoomForPiece, Cond.code yX9_makeRoomForPiece cX9_makeRoomForPiece 2 none, Cond.methodLink RX9 67 Lib.Math.min.name, Cond.static Lib.Math.min.name, Cond.initialized "java/lang/Math", Cond.code Lib.Math.min.name Lib.Math.min.code 2 (some .int), Cond.methodLink RX9 46 yJ7_copyOf_59c91, Cond.static yJ7_copyOf_59c91, Cond.initialized RJ7, Cond.code yJ7_copyOf_59c91 cJ7_copyOf_59c91 3 (some (.array .int)), Cond.methodLink RJ7 316 ⟨"[I", "clone", "()Ljava/lang/Object;"⟩, Cond.sameMethod "[I" "java/lang/Object" "clone" "()Ljava/lang/Object;", Cond.native ⟨"java/lang/Object", "clone", "()Ljava/lang/Object;"⟩, Cond.instanceMethod ⟨"java/lang/Object", "clone", "()Ljava/lang/Object;"⟩, Cond.selects "[I" ⟨"[I", "clone", "()Ljava/lang/Object;"⟩ ⟨"java/lang/Object", "clone", "()Ljava/lang/Object;"⟩, Cond.classLink RJ7 317 "[I", Cond.arrayClass .int, Cond.methodLink RJ7 304 Lib.Math.min.name, Cond.methodLink RJ7 150 arraycopyName, Cond.native arraycopyName, Cond.static arraycopyName, Cond.initialized "java/lang/System", Cond.methodLink RX4 210 yX0_drawOneMetre]
def wsX4_drawEnd_r3 : List Cond := [Cond.instanceMethod yX0_drawOneMetre, Cond.selects RX0 yX0_drawOneMetre yX0_drawOneMetre, Cond.code yX0_drawOneMetre cX0_drawOneMetre 2 none, Cond.fieldLink RX0 57 "SilkMill$Cocoon" "drawnTo" "I", Cond.fieldLink RX0 40 "SilkMill$Cocoon" "length" "I", Cond.fieldLink RX0 9 "SilkMill$Cocoon" "stand" "I", Cond.methodLink RX0 53 yX0_breaksAt, Cond.instanceMethod yX0_breaksAt, Cond.selects RX0 yX0_breaksAt yX0_breaksAt, Cond.code yX0_breaksAt cX0_breaksAt 2 (some .boolean), Cond.fieldLink RX0 24 "SilkMill$Cocoon" "seed" "I", Cond.fieldLink RX0 27 "SilkMill$Cocoon" "frail" "I", Cond.static yX11_next, Cond.initialized RX11, Cond.code yX11_next cX11_next 1 (some .int), Cond.constant RX11 380 (1103515245), Cond.methodLink RX4 56 yX5_addLast, Cond.instanceMethod yX5_addLast, Cond.selects RX5 yX5_addLast yX5_addLast, Cond.initialized RX5, Cond.code yX5_addLast cX5_addLast 2 none, Cond.fieldLink RX5 23 "SilkMill$Row" "size" "I", Cond.fieldLink RX5 17 "SilkMill$Row" "cells" "[LSilkMill$Cocoon;", Cond.methodLink RX5 27 yX5_cellOf]
def wsX4_drawEnd_r4 : List Cond := [Cond.instanceMethod yX5_cellOf, Cond.selects RX5 yX5_cellOf yX5_cellOf, Cond.code yX5_cellOf cX5_cellOf 3 (some .int), Cond.fieldLink RX5 31 "SilkMill$Row" "head" "I"]
def wsX4_drawEnd : List Cond := .code yX4_drawEnd cX4_drawEnd 3 none :: ((wsX4_drawEnd_r1 ++ (wsX4_drawEnd_r2 ++ (wsX4_drawEnd_r3 ++ wsX4_drawEnd_r4))) ++ wsX40 ++ wsX00 ++ wsX90 ++ wsX50)
def wsX4_drawMetre_r1 : List Cond := [Cond.fieldLink RX4 20 "SilkMill$Pot" "ends" "LSilkMill$Row;", Cond.fieldLink RX4 73 "SilkMill$Row" "size" "I", Cond.fieldLink RX4 29 "SilkMill$Pot" "strand" "LSilkMill$Strand;", Cond.fieldLink RX4 79 "SilkMill$Strand" "metres" "I", Cond.fieldLink RX4 197 "SilkMill$Store" "silkDrawn" "I", Cond.fieldLink RX4 200 "SilkMill$Pot" "metresEver" "I", Cond.methodLink RX4 140 yX5_sumOfFineness, Cond.instanceMethod yX5_sumOfFineness, Cond.selects RX5 yX5_sumOfFineness yX5_sumOfFineness, Cond.initialized RX5, Cond.code yX5_sumOfFineness cX5_sumOfFineness 4 (some .int), Cond.fieldLink RX5 23 "SilkMill$Row" "size" "I", Cond.fieldLink RX5 38 "SilkMill$Cocoon" "drawnTo" "I", Cond.methodLink RX5 34 yX5_at, Cond.instanceMethod yX5_at, Cond.selects RX5 yX5_at yX5_at, Cond.code yX5_at cX5_at 2 (some (.object "SilkMill$Cocoon")), Cond.fieldLink RX5 17 "SilkMill$Row" "cells" "[LSilkMill$Cocoon;", Cond.methodLink RX5 27 yX5_cellOf, Cond.instanceMethod yX5_cellOf, Cond.selects RX5 yX5_cellOf yX5_cellOf, Cond.code yX5_cellOf cX5_cellOf 3 (some .int), Cond.fieldLink RX5 31 "SilkMill$Row" "head" "I", Cond.methodLink RX5 41 yX0_finenessAt]
def wsX4_drawMetre_r2 : List Cond := [Cond.instanceMethod yX0_finenessAt, Cond.selects RX0 yX0_finenessAt yX0_finenessAt, Cond.initialized RX0, Cond.code yX0_finenessAt cX0_finenessAt 2 (some .int), Cond.fieldLink RX0 40 "SilkMill$Cocoon" "length" "I", Cond.fieldLink RX0 43 "SilkMill$Cocoon" "base" "I", Cond.methodLink RX4 193 yX9_addMetre, Cond.instanceMethod yX9_addMetre, Cond.selects RX9 yX9_addMetre yX9_addMetre, Cond.initialized RX9, Cond.code yX9_addMetre cX9_addMetre 3 none, Cond.fieldLink RX9 30 "SilkMill$Strand" "metres" "I", Cond.fieldLink RX9 9 "SilkMill$Strand" "fineness" "[I", Cond.fieldLink RX9 15 "SilkMill$Strand" "endCounts" "[I", Cond.fieldLink RX9 40 "SilkMill$Strand" "silk" "I", Cond.methodLink RX4 97 yX5_removeFirst, Cond.instanceMethod yX5_removeFirst, Cond.selects RX5 yX5_removeFirst yX5_removeFirst, Cond.code yX5_removeFirst cX5_removeFirst 2 (some (.object "SilkMill$Cocoon")), Cond.methodLink RX4 203 yX4_drawEnd, Cond.instanceMethod yX4_drawEnd, Cond.selects RX4 yX4_drawEnd yX4_drawEnd, Cond.initialized RX4, Cond.code yX4_drawEnd cX4_drawEnd 3 none]
def wsX4_drawMetre_r3 : List Cond := [Cond.fieldLink RX4 53 "SilkMill$Cocoon" "stand" "I", Cond.fieldLink RX4 23 "SilkMill$Pot" "lost" "LSilkMill$Row;", Cond.methodLink RX4 207 yX9_addMetreOf, Cond.instanceMethod yX9_addMetreOf, Cond.selects RX9 yX9_addMetreOf yX9_addMetreOf, Cond.code yX9_addMetreOf cX9_addMetreOf 4 none, Cond.fieldLink RX9 52 "SilkMill$Cocoon" "latestPiece" "I", Cond.fieldLink RX9 43 "SilkMill$Strand" "pieces" "I", Cond.fieldLink RX9 18 "SilkMill$Strand" "codes" "[I", Cond.fieldLink RX9 21 "SilkMill$Strand" "firsts" "[I", Cond.fieldLink RX9 24 "SilkMill$Strand" "lengths" "[I", Cond.fieldLink RX9 27 "SilkMill$Strand" "places" "[I", Cond.fieldLink RX9 64 "SilkMill$Cocoon" "drawnTo" "I", Cond.methodLink RX9 57 yX0_code, Cond.instanceMethod yX0_code, Cond.selects RX0 yX0_code yX0_code, Cond.code yX0_code cX0_code 1 (some .int), Cond.fieldLink RX0 18 "SilkMill$Cocoon" "lotNumber" "I", Cond.fieldLink RX0 21 "SilkMill$Cocoon" "index" "I", Cond.methodLink RX9 61 yX9_makeRoomForPiece, Cond.instanceMethod yX9_makeRoomForPiece, Cond.selects RX9 yX9_makeRoomForPiece yX9_makeRoomForPiece, Cond.code yX9_makeRoomForPiece cX9_makeRoomForPiece 2 none, Cond.methodLink RX9 67 Lib.Math.min.name]
def wsX4_drawMetre_r4 : List Cond := [Cond.static Lib.Math.min.name, Cond.initialized "java/lang/Math", Cond.code Lib.Math.min.name Lib.Math.min.code 2 (some .int), Cond.methodLink RX9 46 yJ7_copyOf_59c91, Cond.static yJ7_copyOf_59c91, Cond.initialized RJ7, Cond.code yJ7_copyOf_59c91 cJ7_copyOf_59c91 3 (some (.array .int)), Cond.methodLink RJ7 316 ⟨"[I", "clone", "()Ljava/lang/Object;"⟩, Cond.sameMethod "[I" "java/lang/Object" "clone" "()Ljava/lang/Object;", Cond.native ⟨"java/lang/Object", "clone", "()Ljava/lang/Object;"⟩, Cond.instanceMethod ⟨"java/lang/Object", "clone", "()Ljava/lang/Object;"⟩, Cond.selects "[I" ⟨"[I", "clone", "()Ljava/lang/Object;"⟩ ⟨"java/lang/Object", "clone", "()Ljava/lang/Object;"⟩, Cond.classLink RJ7 317 "[I", Cond.arrayClass .int, Cond.methodLink RJ7 304 Lib.Math.min.name, Cond.methodLink RJ7 150 arraycopyName, Cond.native arraycopyName, Cond.static arraycopyName, Cond.initialized "java/lang/System", Cond.methodLink RX4 210 yX0_drawOneMetre, Cond.instanceMethod yX0_drawOneMetre, Cond.selects RX0 yX0_drawOneMetre yX0_drawOneMetre, Cond.code yX0_drawOneMetre cX0_drawOneMetre 2 none, Cond.fieldLink RX0 57 "SilkMill$Cocoon" "drawnTo" "I"]
def wsX4_drawMetre_r5 : List Cond := [Cond.fieldLink RX0 9 "SilkMill$Cocoon" "stand" "I", Cond.methodLink RX0 53 yX0_breaksAt, Cond.instanceMethod yX0_breaksAt, Cond.selects RX0 yX0_breaksAt yX0_breaksAt, Cond.code yX0_breaksAt cX0_breaksAt 2 (some .boolean), Cond.fieldLink RX0 24 "SilkMill$Cocoon" "seed" "I", Cond.fieldLink RX0 27 "SilkMill$Cocoon" "frail" "I", Cond.static yX11_next, Cond.initialized RX11, Cond.code yX11_next cX11_next 1 (some .int), Cond.constant RX11 380 (1103515245), Cond.methodLink RX4 56 yX5_addLast, Cond.instanceMethod yX5_addLast, Cond.selects RX5 yX5_addLast yX5_addLast, Cond.code yX5_addLast cX5_addLast 2 none, Cond.methodLink RX4 167 yX4_cutStrand, Cond.instanceMethod yX4_cutStrand, Cond.selects RX4 yX4_cutStrand yX4_cutStrand, Cond.code yX4_cutStrand cX4_cutStrand 3 (some .int), Cond.fieldLink RX4 40 "SilkMill$Pot" "potNumber" "I", Cond.fieldLink RX4 44 "SilkMill$Pot" "aim" "I", Cond.methodLink RX4 82 yX8_keep, Cond.instanceMethod yX8_keep, Cond.selects RX8 yX8_keep yX8_keep]
def wsX4_drawMetre_r6 : List Cond := [Cond.initialized RX8, Cond.code yX8_keep cX8_keep 4 (some .int), Cond.fieldLink RX8 37 "SilkMill$Store" "kept" "I", Cond.fieldLink RX8 41 "SilkMill$Store" "waste" "I", Cond.fieldLink RX8 44 "SilkMill$Strand" "silk" "I", Cond.fieldLink RX8 17 "SilkMill$Store" "skeins" "[LSilkMill$Skein;", Cond.classLink RX8 15 RX7, Cond.instantiable RX7 10, Cond.initialized RX7, Cond.classLink RX8 45 RX9, Cond.instantiable RX9 9, Cond.fieldLink RX8 52 "SilkMill$Store" "today" "I", Cond.fieldLink RX8 58 "SilkMill$Store" "silkKept" "I", Cond.methodLink RX8 49 yX9_init_, Cond.instanceMethod yX9_init_, Cond.code yX9_init_ cX9_init_ 2 none, Cond.methodLink RX9 3 objectInit, Cond.instanceMethod objectInit, Cond.code objectInit ⟨#[0xb1]⟩ 1 none, Cond.methodLink RX9 34 Lib.Math.max.name, Cond.static Lib.Math.max.name, Cond.code Lib.Math.max.name Lib.Math.max.code 2 (some .int), Cond.methodLink RX8 55 yX7_init, Cond.instanceMethod yX7_init]
def wsX4_drawMetre_r7 : List Cond := [Cond.code yX7_init cX7_init 10 none, Cond.methodLink RX7 3 objectInit, Cond.fieldLink RX7 9 "SilkMill$Skein" "latestGrade" "I", Cond.fieldLink RX7 15 "SilkMill$Skein" "strand" "LSilkMill$Strand;", Cond.fieldLink RX7 19 "SilkMill$Skein" "potNumber" "I", Cond.fieldLink RX7 22 "SilkMill$Skein" "aim" "I", Cond.fieldLink RX7 25 "SilkMill$Skein" "dayCut" "I", Cond.fieldLink RX7 28 "SilkMill$Strand" "fineness" "[I", Cond.constant RX7 36 (2147483647), Cond.methodLink RX7 37 Lib.Math.min.name, Cond.methodLink RX7 43 Lib.Math.max.name, Cond.methodLink RX7 46 Lib.Math.abs.name, Cond.static Lib.Math.abs.name, Cond.code Lib.Math.abs.name Lib.Math.abs.code 1 (some .int), Cond.fieldLink RX7 50 "SilkMill$Skein" "least" "I", Cond.fieldLink RX7 53 "SilkMill$Skein" "greatest" "I", Cond.fieldLink RX7 56 "SilkMill$Skein" "slips" "I", Cond.methodLink RX4 88 yX9_beginAnew, Cond.instanceMethod yX9_beginAnew, Cond.selects RX9 yX9_beginAnew yX9_beginAnew, Cond.code yX9_beginAnew cX9_beginAnew 1 none]
def wsX4_drawMetre : List Cond := .code yX4_drawMetre cX4_drawMetre 6 none :: ((wsX4_drawMetre_r1 ++ (wsX4_drawMetre_r2 ++ (wsX4_drawMetre_r3 ++ (wsX4_drawMetre_r4 ++ (wsX4_drawMetre_r5 ++ (wsX4_drawMetre_r6 ++ wsX4_drawMetre_r7)))))) ++ wsX40 ++ wsX50 ++ wsX90 ++ wsX80 ++ wsX00 ++ wsX70)
def wsX4_tick_r1 : List Cond := [Cond.fieldLink RX4 60 "SilkMill$Pot" "ticksEver" "I", Cond.fieldLink RX4 66 "SilkMill$Pot" "stop" "I", Cond.fieldLink RX4 20 "SilkMill$Pot" "ends" "LSilkMill$Row;", Cond.fieldLink RX4 73 "SilkMill$Row" "size" "I", Cond.methodLink RX4 63 yX4_searchLost, Cond.instanceMethod yX4_searchLost, Cond.selects RX4 yX4_searchLost yX4_searchLost, Cond.initialized RX4, Cond.code yX4_searchLost cX4_searchLost 1 none, Cond.fieldLink RX4 23 "SilkMill$Pot" "lost" "LSilkMill$Row;", Cond.fieldLink RX4 91 "SilkMill$Pot" "search" "I", Cond.fieldLink RX4 47 "SilkMill$Pot" "find" "I", Cond.methodLink RX4 94 yX4_fetchLost, Cond.instanceMethod yX4_fetchLost, Cond.selects RX4 yX4_fetchLost yX4_fetchLost, Cond.code yX4_fetchLost cX4_fetchLost 2 none, Cond.fieldLink RX4 53 "SilkMill$Cocoon" "stand" "I", Cond.fieldLink RX4 14 "SilkMill$Pot" "basket" "LSilkMill$Row;", Cond.methodLink RX4 97 yX5_removeFirst, Cond.instanceMethod yX5_removeFirst, Cond.selects RX5 yX5_removeFirst yX5_removeFirst, Cond.initialized RX5, Cond.code yX5_removeFirst cX5_removeFirst 2 (some (.object "SilkMill$Cocoon")), Cond.fieldLink RX5 23 "SilkMill$Row" "size" "I"]
def wsX4_tick_r2 : List Cond := [Cond.fieldLink RX5 17 "SilkMill$Row" "cells" "[LSilkMill$Cocoon;", Cond.fieldLink RX5 31 "SilkMill$Row" "head" "I", Cond.methodLink RX5 27 yX5_cellOf, Cond.instanceMethod yX5_cellOf, Cond.selects RX5 yX5_cellOf yX5_cellOf, Cond.code yX5_cellOf cX5_cellOf 3 (some .int), Cond.methodLink RX4 56 yX5_addLast, Cond.instanceMethod yX5_addLast, Cond.selects RX5 yX5_addLast yX5_addLast, Cond.code yX5_addLast cX5_addLast 2 none, Cond.methodLink RX4 69 yX4_applyRules, Cond.instanceMethod yX4_applyRules, Cond.selects RX4 yX4_applyRules yX4_applyRules, Cond.code yX4_applyRules cX4_applyRules 3 none, Cond.fieldLink RX4 36 "SilkMill$Pot" "rules" "LSilkMill$Rules;", Cond.fieldLink RX4 101 "SilkMill$Rules" "size" "I", Cond.fieldLink RX4 102 "SilkMill$Store" "today" "I", Cond.fieldLink RX4 109 "SilkMill$Rules" "acts" "[I", Cond.fieldLink RX4 113 "SilkMill$Rules" "amounts" "[I", Cond.methodLink RX4 105 yX4_allHold, Cond.instanceMethod yX4_allHold, Cond.selects RX4 yX4_allHold yX4_allHold, Cond.code yX4_allHold cX4_allHold 6 (some .boolean), Cond.fieldLink RX4 120 "SilkMill$Rules" "conditions" "[I"]
def wsX4_tick_r3 : List Cond := [Cond.fieldLink RX4 123 "SilkMill$Rules" "fields" "[I", Cond.fieldLink RX4 130 "SilkMill$Rules" "relations" "[I", Cond.fieldLink RX4 133 "SilkMill$Rules" "numbers" "[I", Cond.methodLink RX4 126 yX4_valueOf, Cond.instanceMethod yX4_valueOf, Cond.selects RX4 yX4_valueOf yX4_valueOf, Cond.code yX4_valueOf cX4_valueOf 3 (some .int), Cond.fieldLink RX4 29 "SilkMill$Pot" "strand" "LSilkMill$Strand;", Cond.fieldLink RX4 79 "SilkMill$Strand" "metres" "I", Cond.methodLink RX4 140 yX5_sumOfFineness, Cond.instanceMethod yX5_sumOfFineness, Cond.selects RX5 yX5_sumOfFineness yX5_sumOfFineness, Cond.code yX5_sumOfFineness cX5_sumOfFineness 4 (some .int), Cond.fieldLink RX5 38 "SilkMill$Cocoon" "drawnTo" "I", Cond.methodLink RX5 34 yX5_at, Cond.instanceMethod yX5_at, Cond.selects RX5 yX5_at yX5_at, Cond.code yX5_at cX5_at 2 (some (.object "SilkMill$Cocoon")), Cond.methodLink RX5 41 yX0_finenessAt, Cond.instanceMethod yX0_finenessAt, Cond.selects RX0 yX0_finenessAt yX0_finenessAt, Cond.initialized RX0, Cond.code yX0_finenessAt cX0_finenessAt 2 (some .int), Cond.fieldLink RX0 40 "SilkMill$Cocoon" "length" "I"]
def wsX4_tick_r4 : List Cond := [Cond.fieldLink RX0 43 "SilkMill$Cocoon" "base" "I", Cond.methodLink RX4 144 yX5_thinnest, Cond.instanceMethod yX5_thinnest, Cond.selects RX5 yX5_thinnest yX5_thinnest, Cond.code yX5_thinnest cX5_thinnest 5 (some .int), Cond.constant RX5 46 (2147483647), Cond.methodLink RX4 147 yX5_at, Cond.methodLink RX4 151 yX4_finenessOf, Cond.static yX4_finenessOf, Cond.code yX4_finenessOf cX4_finenessOf 1 (some .int), Cond.fieldLink RX4 180 "SilkMill$Cocoon" "drawnTo" "I", Cond.methodLink RX4 189 yX0_finenessAt, Cond.methodLink RX4 136 yX4_isRelated, Cond.static yX4_isRelated, Cond.code yX4_isRelated cX4_isRelated 3 (some .boolean), Cond.methodLink RX4 116 yX4_act, Cond.instanceMethod yX4_act, Cond.selects RX4 yX4_act yX4_act, Cond.code yX4_act cX4_act 4 none, Cond.methodLink RX4 155 yX4_castFirst, Cond.instanceMethod yX4_castFirst, Cond.selects RX4 yX4_castFirst yX4_castFirst, Cond.code yX4_castFirst cX4_castFirst 2 none, Cond.methodLink RX4 158 yX4_dropThinnest]
def wsX4_tick_r5 : List Cond := [Cond.instanceMethod yX4_dropThinnest, Cond.selects RX4 yX4_dropThinnest yX4_dropThinnest, Cond.code yX4_dropThinnest cX4_dropThinnest 2 none, Cond.methodLink RX4 171 yX5_removeAt, Cond.instanceMethod yX5_removeAt, Cond.selects RX5 yX5_removeAt yX5_removeAt, Cond.code yX5_removeAt cX5_removeAt 4 (some (.object "SilkMill$Cocoon")), Cond.methodLink RX4 174 yX5_addFirst, Cond.instanceMethod yX5_addFirst, Cond.selects RX5 yX5_addFirst yX5_addFirst, Cond.code yX5_addFirst cX5_addFirst 2 none, Cond.methodLink RX4 161 yX4_findFirst, Cond.instanceMethod yX4_findFirst, Cond.selects RX4 yX4_findFirst yX4_findFirst, Cond.code yX4_findFirst cX4_findFirst 1 none, Cond.methodLink RX4 164 yX4_throwLast, Cond.instanceMethod yX4_throwLast, Cond.selects RX4 yX4_throwLast yX4_throwLast, Cond.code yX4_throwLast cX4_throwLast 3 none, Cond.fieldLink RX4 177 "SilkMill$Store" "silkThrown" "I", Cond.fieldLink RX4 183 "SilkMill$Cocoon" "length" "I", Cond.methodLink RX4 186 yX0_silkBetween, Cond.instanceMethod yX0_silkBetween, Cond.selects RX0 yX0_silkBetween yX0_silkBetween]
def wsX4_tick_r6 : List Cond := [Cond.code yX0_silkBetween cX0_silkBetween 5 (some .int), Cond.methodLink RX0 50 yX0_finenessAt, Cond.methodLink RX4 167 yX4_cutStrand, Cond.instanceMethod yX4_cutStrand, Cond.selects RX4 yX4_cutStrand yX4_cutStrand, Cond.code yX4_cutStrand cX4_cutStrand 3 (some .int), Cond.fieldLink RX4 40 "SilkMill$Pot" "potNumber" "I", Cond.fieldLink RX4 44 "SilkMill$Pot" "aim" "I", Cond.methodLink RX4 82 yX8_keep, Cond.instanceMethod yX8_keep, Cond.selects RX8 yX8_keep yX8_keep, Cond.initialized RX8, Cond.code yX8_keep cX8_keep 4 (some .int), Cond.fieldLink RX8 37 "SilkMill$Store" "kept" "I", Cond.fieldLink RX8 41 "SilkMill$Store" "waste" "I", Cond.fieldLink RX8 44 "SilkMill$Strand" "silk" "I", Cond.fieldLink RX8 17 "SilkMill$Store" "skeins" "[LSilkMill$Skein;", Cond.classLink RX8 15 RX7, Cond.instantiable RX7 10, Cond.initialized RX7, Cond.classLink RX8 45 RX9, Cond.instantiable RX9 9, Cond.initialized RX9, Cond.fieldLink RX8 52 "SilkMill$Store" "today" "I"]
def wsX4_tick_r7 : List Cond := [Cond.fieldLink RX8 58 "SilkMill$Store" "silkKept" "I", Cond.methodLink RX8 49 yX9_init_, Cond.instanceMethod yX9_init_, Cond.code yX9_init_ cX9_init_ 2 none, Cond.methodLink RX9 3 objectInit, Cond.instanceMethod objectInit, Cond.code objectInit ⟨#[0xb1]⟩ 1 none, Cond.fieldLink RX9 30 "SilkMill$Strand" "metres" "I", Cond.methodLink RX9 34 Lib.Math.max.name, Cond.static Lib.Math.max.name, Cond.initialized "java/lang/Math", Cond.code Lib.Math.max.name Lib.Math.max.code 2 (some .int), Cond.fieldLink RX9 40 "SilkMill$Strand" "silk" "I", Cond.fieldLink RX9 43 "SilkMill$Strand" "pieces" "I", Cond.fieldLink RX9 9 "SilkMill$Strand" "fineness" "[I", Cond.fieldLink RX9 15 "SilkMill$Strand" "endCounts" "[I", Cond.fieldLink RX9 18 "SilkMill$Strand" "codes" "[I", Cond.fieldLink RX9 21 "SilkMill$Strand" "firsts" "[I", Cond.fieldLink RX9 24 "SilkMill$Strand" "lengths" "[I", Cond.fieldLink RX9 27 "SilkMill$Strand" "places" "[I", Cond.methodLink RX9 46 yJ7_copyOf_59c91, Cond.static yJ7_copyOf_59c91, Cond.initialized RJ7, Cond.code yJ7_copyOf_59c91 cJ7_copyOf_59c91 3 (some (.array .int))]
def wsX4_tick_r8 : List Cond := [Cond.methodLink RJ7 316 ⟨"[I", "clone", "()Ljava/lang/Object;"⟩, Cond.sameMethod "[I" "java/lang/Object" "clone" "()Ljava/lang/Object;", Cond.native ⟨"java/lang/Object", "clone", "()Ljava/lang/Object;"⟩, Cond.instanceMethod ⟨"java/lang/Object", "clone", "()Ljava/lang/Object;"⟩, Cond.selects "[I" ⟨"[I", "clone", "()Ljava/lang/Object;"⟩ ⟨"java/lang/Object", "clone", "()Ljava/lang/Object;"⟩, Cond.classLink RJ7 317 "[I", Cond.arrayClass .int, Cond.methodLink RJ7 304 Lib.Math.min.name, Cond.static Lib.Math.min.name, Cond.code Lib.Math.min.name Lib.Math.min.code 2 (some .int), Cond.methodLink RJ7 150 arraycopyName, Cond.native arraycopyName, Cond.static arraycopyName, Cond.initialized "java/lang/System", Cond.methodLink RX8 55 yX7_init, Cond.instanceMethod yX7_init, Cond.code yX7_init cX7_init 10 none, Cond.methodLink RX7 3 objectInit, Cond.fieldLink RX7 9 "SilkMill$Skein" "latestGrade" "I", Cond.fieldLink RX7 15 "SilkMill$Skein" "strand" "LSilkMill$Strand;", Cond.fieldLink RX7 19 "SilkMill$Skein" "potNumber" "I", Cond.fieldLink RX7 22 "SilkMill$Skein" "aim" "I", Cond.fieldLink RX7 25 "SilkMill$Skein" "dayCut" "I", Cond.fieldLink RX7 28 "SilkMill$Strand" "fineness" "[I"]
def wsX4_tick_r9 : List Cond := [Cond.constant RX7 36 (2147483647), Cond.methodLink RX7 37 Lib.Math.min.name, Cond.methodLink RX7 43 Lib.Math.max.name, Cond.methodLink RX7 46 Lib.Math.abs.name, Cond.static Lib.Math.abs.name, Cond.code Lib.Math.abs.name Lib.Math.abs.code 1 (some .int), Cond.fieldLink RX7 50 "SilkMill$Skein" "least" "I", Cond.fieldLink RX7 53 "SilkMill$Skein" "greatest" "I", Cond.fieldLink RX7 56 "SilkMill$Skein" "slips" "I", Cond.methodLink RX4 88 yX9_beginAnew, Cond.instanceMethod yX9_beginAnew, Cond.selects RX9 yX9_beginAnew yX9_beginAnew, Cond.code yX9_beginAnew cX9_beginAnew 1 none, Cond.methodLink RX4 76 yX4_drawMetre, Cond.instanceMethod yX4_drawMetre, Cond.selects RX4 yX4_drawMetre yX4_drawMetre, Cond.code yX4_drawMetre cX4_drawMetre 6 none, Cond.fieldLink RX4 197 "SilkMill$Store" "silkDrawn" "I", Cond.fieldLink RX4 200 "SilkMill$Pot" "metresEver" "I", Cond.methodLink RX4 193 yX9_addMetre, Cond.instanceMethod yX9_addMetre, Cond.selects RX9 yX9_addMetre yX9_addMetre, Cond.code yX9_addMetre cX9_addMetre 3 none, Cond.methodLink RX4 203 yX4_drawEnd]
def wsX4_tick_r10 : List Cond := [Cond.instanceMethod yX4_drawEnd, Cond.selects RX4 yX4_drawEnd yX4_drawEnd, Cond.code yX4_drawEnd cX4_drawEnd 3 none, Cond.methodLink RX4 207 yX9_addMetreOf, Cond.instanceMethod yX9_addMetreOf, Cond.selects RX9 yX9_addMetreOf yX9_addMetreOf, Cond.code yX9_addMetreOf cX9_addMetreOf 4 none, Cond.fieldLink RX9 52 "SilkMill$Cocoon" "latestPiece" "I", Cond.fieldLink RX9 64 "SilkMill$Cocoon" "drawnTo" "I", Cond.methodLink RX9 57 yX0_code, Cond.instanceMethod yX0_code, Cond.selects RX0 yX0_code yX0_code, Cond.code yX0_code cX0_code 1 (some .int), Cond.fieldLink RX0 18 "SilkMill$Cocoon" "lotNumber" "I", Cond.fieldLink RX0 21 "SilkMill$Cocoon" "index" "I", Cond.methodLink RX9 61 yX9_makeRoomForPiece, Cond.instanceMethod yX9_makeRoomForPiece, Cond.selects RX9 yX9_makeRoomForPiece yX9_makeRoomForPiece, Cond.code yX9_makeRoomForPiece cX9_makeRoomForPiece 2 none, Cond.methodLink RX9 67 Lib.Math.min.name, Cond.methodLink RX4 210 yX0_drawOneMetre, Cond.instanceMethod yX0_drawOneMetre, Cond.selects RX0 yX0_drawOneMetre yX0_drawOneMetre, Cond.code yX0_drawOneMetre cX0_drawOneMetre 2 none]
def wsX4_tick_r11 : List Cond := [Cond.fieldLink RX0 57 "SilkMill$Cocoon" "drawnTo" "I", Cond.fieldLink RX0 9 "SilkMill$Cocoon" "stand" "I", Cond.methodLink RX0 53 yX0_breaksAt, Cond.instanceMethod yX0_breaksAt, Cond.selects RX0 yX0_breaksAt yX0_breaksAt, Cond.code yX0_breaksAt cX0_breaksAt 2 (some .boolean), Cond.fieldLink RX0 24 "SilkMill$Cocoon" "seed" "I", Cond.fieldLink RX0 27 "SilkMill$Cocoon" "frail" "I", Cond.static yX11_next, Cond.initialized RX11, Cond.code yX11_next cX11_next 1 (some .int), Cond.constant RX11 380 (1103515245)]
def wsX4_tick : List Cond := .code yX4_tick cX4_tick 2 (some .boolean) :: ((wsX4_tick_r1 ++ (wsX4_tick_r2 ++ (wsX4_tick_r3 ++ (wsX4_tick_r4 ++ (wsX4_tick_r5 ++ (wsX4_tick_r6 ++ (wsX4_tick_r7 ++ (wsX4_tick_r8 ++ (wsX4_tick_r9 ++ (wsX4_tick_r10 ++ wsX4_tick_r11)))))))))) ++ wsX40 ++ wsX50 ++ wsX00 ++ wsX60 ++ wsX80 ++ wsX90 ++ wsX70)
def wsX6_openRule : List Cond := .code yX6_openRule cX6_openRule 1 none :: ([.fieldLink RX6 30 "SilkMill$Rules" "size" "I", .fieldLink RX6 18 "SilkMill$Rules" "conditions" "[I"] ++ wsX60)
def wsX6_addCondition : List Cond := .code yX6_addCondition cX6_addCondition 5 none :: ([.fieldLink RX6 30 "SilkMill$Rules" "size" "I", .fieldLink RX6 18 "SilkMill$Rules" "conditions" "[I", .fieldLink RX6 21 "SilkMill$Rules" "fields" "[I", .fieldLink RX6 24 "SilkMill$Rules" "relations" "[I", .fieldLink RX6 27 "SilkMill$Rules" "numbers" "[I"] ++ wsX60)
def wsX6_closeRule : List Cond := .code yX6_closeRule cX6_closeRule 3 none :: ([.fieldLink RX6 30 "SilkMill$Rules" "size" "I", .fieldLink RX6 9 "SilkMill$Rules" "acts" "[I", .fieldLink RX6 15 "SilkMill$Rules" "amounts" "[I"] ++ wsX60)
def wsX7_isOf : List Cond := .code yX7_isOf cX7_isOf 3 (some .boolean) :: ([.fieldLink RX7 19 "SilkMill$Skein" "potNumber" "I", .fieldLink RX7 25 "SilkMill$Skein" "dayCut" "I"] ++ wsX70)
def wsX8_init : List Cond := .code yX8_init cX8_init 1 none :: ([.methodLink RX8 3 objectInit, .instanceMethod objectInit, .code objectInit ⟨#[0xb1]⟩ 1 none, .arrayClass .int, .fieldLink RX8 9 "SilkMill$Store" "prices" "[I", .classLink RX8 15 RX7, .fieldLink RX8 17 "SilkMill$Store" "skeins" "[LSilkMill$Skein;", .fieldLink RX8 21 "SilkMill$Store" "faultSkeins" "[I", .fieldLink RX8 24 "SilkMill$Store" "faultDays" "[I", .fieldLink RX8 27 "SilkMill$Store" "faultAmounts" "[I", .classLink RX8 30 RX2, .instantiable RX2 8, .initialized RX2, .fieldLink RX8 33 "SilkMill$Store" "mixer" "LSilkMill$Mixer;", .instanceMethod yX2_init, .code yX2_init cX2_init 1 none, .methodLink RX2 3 objectInit, .fieldLink RX2 9 "SilkMill$Mixer" "numbers" "[I", .fieldLink RX2 15 "SilkMill$Mixer" "weights" "[I", .fieldLink RX2 18 "SilkMill$Mixer" "prices" "[I"] ++ wsX80 ++ wsX20)
def wsX8_skeinAt : List Cond := .code yX8_skeinAt cX8_skeinAt 2 (some (.object "SilkMill$Skein")) :: ([.fieldLink RX8 37 "SilkMill$Store" "kept" "I", .fieldLink RX8 17 "SilkMill$Store" "skeins" "[LSilkMill$Skein;"] ++ wsX80)
def wsX8_priceOf : List Cond := .code yX8_priceOf cX8_priceOf 3 (some .int) :: ([.fieldLink RX8 61 "SilkMill$Skein" "latestGrade" "I", .fieldLink RX8 68 "SilkMill$Skein" "strand" "LSilkMill$Strand;", .fieldLink RX8 44 "SilkMill$Strand" "silk" "I", .fieldLink RX8 9 "SilkMill$Store" "prices" "[I", .static yX11_isWithin, .initialized RX11, .code yX11_isWithin cX11_isWithin 3 (some .boolean)] ++ wsX70 ++ wsX90 ++ wsX80)
def wsX8_markMix : List Cond := .code yX8_markMix cX8_markMix 4 none :: ([.fieldLink RX8 37 "SilkMill$Store" "kept" "I", .fieldLink RX8 33 "SilkMill$Store" "mixer" "LSilkMill$Mixer;", .fieldLink RX8 110 "SilkMill$Skein" "inLatestMix" "Z", .fieldLink RX8 80 "SilkMill$Skein" "sold" "Z", .methodLink RX8 76 yX8_skeinAt, .instanceMethod yX8_skeinAt, .selects RX8 yX8_skeinAt yX8_skeinAt, .initialized RX8, .code yX8_skeinAt cX8_skeinAt 2 (some (.object "SilkMill$Skein")), .fieldLink RX8 17 "SilkMill$Store" "skeins" "[LSilkMill$Skein;", .methodLink RX8 106 yX2_isChosen, .instanceMethod yX2_isChosen, .selects RX2 yX2_isChosen yX2_isChosen, .initialized RX2, .code yX2_isChosen cX2_isChosen 3 (some .boolean), .fieldLink RX2 21 "SilkMill$Mixer" "size" "I", .fieldLink RX2 9 "SilkMill$Mixer" "numbers" "[I", .fieldLink RX2 37 "SilkMill$Mixer" "bestSet" "I"] ++ wsX80 ++ wsX70 ++ wsX20)
def wsX8_mixFor_r1 : List Cond := [Cond.fieldLink RX8 33 "SilkMill$Store" "mixer" "LSilkMill$Mixer;", Cond.fieldLink RX8 37 "SilkMill$Store" "kept" "I", Cond.fieldLink RX8 80 "SilkMill$Skein" "sold" "Z", Cond.fieldLink RX8 84 "SilkMill$Skein" "least" "I", Cond.fieldLink RX8 87 "SilkMill$Skein" "greatest" "I", Cond.fieldLink RX8 68 "SilkMill$Skein" "strand" "LSilkMill$Strand;", Cond.fieldLink RX8 44 "SilkMill$Strand" "silk" "I", Cond.methodLink RX8 72 yX2_beginFor, Cond.instanceMethod yX2_beginFor, Cond.selects RX2 yX2_beginFor yX2_beginFor, Cond.initialized RX2, Cond.code yX2_beginFor cX2_beginFor 2 none, Cond.fieldLink RX2 21 "SilkMill$Mixer" "size" "I", Cond.fieldLink RX2 25 "SilkMill$Mixer" "offered" "I", Cond.fieldLink RX2 28 "SilkMill$Mixer" "wanted" "I", Cond.constant RX2 33 (2147483647), Cond.fieldLink RX2 34 "SilkMill$Mixer" "bestPrice" "I", Cond.fieldLink RX2 37 "SilkMill$Mixer" "bestSet" "I", Cond.methodLink RX8 76 yX8_skeinAt, Cond.instanceMethod yX8_skeinAt, Cond.selects RX8 yX8_skeinAt yX8_skeinAt, Cond.initialized RX8, Cond.code yX8_skeinAt cX8_skeinAt 2 (some (.object "SilkMill$Skein")), Cond.fieldLink RX8 17 "SilkMill$Store" "skeins" "[LSilkMill$Skein;"]
def wsX8_mixFor_r2 : List Cond := [Cond.methodLink RX8 90 yX8_priceOf, Cond.instanceMethod yX8_priceOf, Cond.selects RX8 yX8_priceOf yX8_priceOf, Cond.code yX8_priceOf cX8_priceOf 3 (some .int), Cond.fieldLink RX8 61 "SilkMill$Skein" "latestGrade" "I", Cond.fieldLink RX8 9 "SilkMill$Store" "prices" "[I", Cond.static yX11_isWithin, Cond.initialized RX11, Cond.code yX11_isWithin cX11_isWithin 3 (some .boolean), Cond.methodLink RX8 94 yX2_offer, Cond.instanceMethod yX2_offer, Cond.selects RX2 yX2_offer yX2_offer, Cond.code yX2_offer cX2_offer 4 none, Cond.fieldLink RX2 9 "SilkMill$Mixer" "numbers" "[I", Cond.fieldLink RX2 15 "SilkMill$Mixer" "weights" "[I", Cond.fieldLink RX2 18 "SilkMill$Mixer" "prices" "[I", Cond.methodLink RX8 98 yX2_leastPrice, Cond.instanceMethod yX2_leastPrice, Cond.selects RX2 yX2_leastPrice yX2_leastPrice, Cond.code yX2_leastPrice cX2_leastPrice 1 (some .int), Cond.methodLink RX2 40 yX2_seek, Cond.static yX2_seek, Cond.code yX2_seek cX2_seek 5 none, Cond.methodLink RX8 102 yX8_markMix]
def wsX8_mixFor_r3 : List Cond := [Cond.instanceMethod yX8_markMix, Cond.selects RX8 yX8_markMix yX8_markMix, Cond.code yX8_markMix cX8_markMix 4 none, Cond.fieldLink RX8 110 "SilkMill$Skein" "inLatestMix" "Z", Cond.methodLink RX8 106 yX2_isChosen, Cond.instanceMethod yX2_isChosen, Cond.selects RX2 yX2_isChosen yX2_isChosen, Cond.code yX2_isChosen cX2_isChosen 3 (some .boolean)]
def wsX8_mixFor : List Cond := .code yX8_mixFor cX8_mixFor 7 (some .int) :: ((wsX8_mixFor_r1 ++ (wsX8_mixFor_r2 ++ wsX8_mixFor_r3)) ++ wsX80 ++ wsX70 ++ wsX90 ++ wsX20)
def wsX8_tellFault : List Cond := .code yX8_tellFault cX8_tellFault 3 (some .boolean) :: ([.fieldLink RX8 113 "SilkMill$Store" "faults" "I", .fieldLink RX8 21 "SilkMill$Store" "faultSkeins" "[I", .fieldLink RX8 24 "SilkMill$Store" "faultDays" "[I", .fieldLink RX8 52 "SilkMill$Store" "today" "I", .fieldLink RX8 27 "SilkMill$Store" "faultAmounts" "[I"] ++ wsX80)
def wsX8_payFor_r1 : List Cond := [Cond.fieldLink RX8 37 "SilkMill$Store" "kept" "I", Cond.fieldLink RX8 113 "SilkMill$Store" "faults" "I", Cond.fieldLink RX8 21 "SilkMill$Store" "faultSkeins" "[I", Cond.fieldLink RX8 24 "SilkMill$Store" "faultDays" "[I", Cond.fieldLink RX8 27 "SilkMill$Store" "faultAmounts" "[I", Cond.methodLink RX8 76 yX8_skeinAt, Cond.instanceMethod yX8_skeinAt, Cond.selects RX8 yX8_skeinAt yX8_skeinAt, Cond.initialized RX8, Cond.code yX8_skeinAt cX8_skeinAt 2 (some (.object "SilkMill$Skein")), Cond.fieldLink RX8 17 "SilkMill$Store" "skeins" "[LSilkMill$Skein;", Cond.methodLink RX8 116 yX7_isOf, Cond.instanceMethod yX7_isOf, Cond.selects RX7 yX7_isOf yX7_isOf, Cond.initialized RX7, Cond.code yX7_isOf cX7_isOf 3 (some .boolean), Cond.fieldLink RX7 19 "SilkMill$Skein" "potNumber" "I", Cond.fieldLink RX7 25 "SilkMill$Skein" "dayCut" "I", Cond.methodLink RX8 90 yX8_priceOf, Cond.instanceMethod yX8_priceOf, Cond.selects RX8 yX8_priceOf yX8_priceOf, Cond.code yX8_priceOf cX8_priceOf 3 (some .int), Cond.fieldLink RX8 61 "SilkMill$Skein" "latestGrade" "I", Cond.fieldLink RX8 68 "SilkMill$Skein" "strand" "LSilkMill$Strand;"]
def wsX8_payFor_r2 : List Cond := [Cond.fieldLink RX8 44 "SilkMill$Strand" "silk" "I", Cond.fieldLink RX8 9 "SilkMill$Store" "prices" "[I", Cond.static yX11_isWithin, Cond.initialized RX11, Cond.code yX11_isWithin cX11_isWithin 3 (some .boolean)]
def wsX8_payFor : List Cond := .code yX8_payFor cX8_payFor 7 (some .int) :: ((wsX8_payFor_r1 ++ wsX8_payFor_r2) ++ wsX80 ++ wsX70 ++ wsX90)
def wsX10_init : List Cond := .code yX10_init cX10_init 1 none :: ([.methodLink RX10 3 objectInit, .instanceMethod objectInit, .code objectInit ⟨#[0xb1]⟩ 1 none, .fieldLink RX10 9 "SilkMill$Tape" "faultPlace" "I", .arrayClass .byte, .fieldLink RX10 15 "SilkMill$Tape" "bytes" "[B"] ++ wsX100)
def wsX10_append : List Cond := .code yX10_append cX10_append 2 none :: ([.fieldLink RX10 19 "SilkMill$Tape" "size" "I", .fieldLink RX10 15 "SilkMill$Tape" "bytes" "[B"] ++ wsX100)
def wsX10_forgetFault : List Cond := .code yX10_forgetFault cX10_forgetFault 1 none :: ([.fieldLink RX10 22 "SilkMill$Tape" "faultKind" "I", .fieldLink RX10 9 "SilkMill$Tape" "faultPlace" "I"] ++ wsX100)
def wsX10_byteAt : List Cond := .code yX10_byteAt cX10_byteAt 2 (some .int) :: ([.fieldLink RX10 19 "SilkMill$Tape" "size" "I", .fieldLink RX10 15 "SilkMill$Tape" "bytes" "[B"] ++ wsX100)
def wsX10_isBlank : List Cond := .code yX10_isBlank cX10_isBlank 1 (some .boolean) :: ([])
def wsX10_isLetter : List Cond := .code yX10_isLetter cX10_isLetter 1 (some .boolean) :: ([])
def wsX10_isDigit : List Cond := .code yX10_isDigit cX10_isDigit 1 (some .boolean) :: ([])
def wsX10_isSignByte : List Cond := .code yX10_isSignByte cX10_isSignByte 1 (some .boolean) :: ([])
def wsX10_advance : List Cond := .code yX10_advance cX10_advance 1 none :: ([.fieldLink RX10 31 "SilkMill$Tape" "behind" "I", .fieldLink RX10 79 "SilkMill$Tape" "start" "I", .fieldLink RX10 19 "SilkMill$Tape" "size" "I", .fieldLink RX10 37 "SilkMill$Tape" "token" "I", .methodLink RX10 82 yX10_byteAt, .instanceMethod yX10_byteAt, .selects RX10 yX10_byteAt yX10_byteAt, .initialized RX10, .code yX10_byteAt cX10_byteAt 2 (some .int), .fieldLink RX10 15 "SilkMill$Tape" "bytes" "[B", .methodLink RX10 132 yX10_isBlank, .static yX10_isBlank, .code yX10_isBlank cX10_isBlank 1 (some .boolean), .methodLink RX10 135 yX10_isLetter, .static yX10_isLetter, .code yX10_isLetter cX10_isLetter 1 (some .boolean), .methodLink RX10 138 yX10_isDigit, .static yX10_isDigit, .code yX10_isDigit cX10_isDigit 1 (some .boolean), .methodLink RX10 141 yX10_isSignByte, .static yX10_isSignByte, .code yX10_isSignByte cX10_isSignByte 1 (some .boolean)] ++ wsX100)
def wsJ0_coder_7d493 : List Cond := .code yJ0_coder_7d493 cJ0_coder_7d493 1 (some .byte) :: ([.fieldLink RJ0 38 "java/lang/String" "COMPACT_STRINGS" "Z", .fieldLink RJ0 15 "java/lang/String" "coder" "B"])
def wsJ0_length_8abf5 : List Cond := .code yJ0_length_8abf5 cJ0_length_8abf5 1 (some .int) :: ([.fieldLink RJ0 9 "java/lang/String" "value" "[B", .methodLink RJ0 335 yJ0_coder_7d493, .instanceMethod yJ0_coder_7d493, .selects RJ0 yJ0_coder_7d493 yJ0_coder_7d493, .initialized RJ0, .code yJ0_coder_7d493 cJ0_coder_7d493 1 (some .byte), .fieldLink RJ0 38 "java/lang/String" "COMPACT_STRINGS" "Z", .fieldLink RJ0 15 "java/lang/String" "coder" "B"])
def wsJ0_isLatin1_aae02 : List Cond := .code yJ0_isLatin1_aae02 cJ0_isLatin1_aae02 1 (some .boolean) :: ([.fieldLink RJ0 38 "java/lang/String" "COMPACT_STRINGS" "Z", .fieldLink RJ0 15 "java/lang/String" "coder" "B"])
def wsJ3_checkIndex_8e157 : List Cond := .code yJ3_checkIndex_8e157 cJ3_checkIndex_8e157 3 (some .int) :: ([])
def wsJ0_checkIndex_df160 : List Cond := .code yJ0_checkIndex_df160 cJ0_checkIndex_df160 2 none :: ([.fieldLink RJ0 1053 "jdk/internal/util/Preconditions" "SIOOBE_FORMATTER" "Ljava/util/function/BiFunction;", .methodLink RJ0 1059 yJ3_checkIndex_8e157, .static yJ3_checkIndex_8e157, .initialized RJ3, .code yJ3_checkIndex_8e157 cJ3_checkIndex_8e157 3 (some .int)])
def wsJ1_charAt_3b067 : List Cond := .code yJ1_charAt_3b067 cJ1_charAt_3b067 2 (some .char) :: ([.methodLink RJ1 9 yJ0_checkIndex_df160, .static yJ0_checkIndex_df160, .initialized RJ0, .code yJ0_checkIndex_df160 cJ0_checkIndex_df160 2 none, .fieldLink RJ0 1053 "jdk/internal/util/Preconditions" "SIOOBE_FORMATTER" "Ljava/util/function/BiFunction;", .methodLink RJ0 1059 yJ3_checkIndex_8e157, .static yJ3_checkIndex_8e157, .initialized RJ3, .code yJ3_checkIndex_8e157 cJ3_checkIndex_8e157 3 (some .int)])
def wsJ2_length_9d52b : List Cond := .code yJ2_length_9d52b cJ2_length_9d52b 1 (some .int) :: ([])
def wsJ2_checkIndex_2214a : List Cond := .code yJ2_checkIndex_2214a cJ2_checkIndex_2214a 2 none :: ([.methodLink RJ2 48 yJ2_length_9d52b, .static yJ2_length_9d52b, .initialized RJ2, .code yJ2_length_9d52b cJ2_length_9d52b 1 (some .int), .methodLink RJ2 414 yJ0_checkIndex_df160, .static yJ0_checkIndex_df160, .initialized RJ0, .code yJ0_checkIndex_df160 cJ0_checkIndex_df160 2 none, .fieldLink RJ0 1053 "jdk/internal/util/Preconditions" "SIOOBE_FORMATTER" "Ljava/util/function/BiFunction;", .methodLink RJ0 1059 yJ3_checkIndex_8e157, .static yJ3_checkIndex_8e157, .initialized RJ3, .code yJ3_checkIndex_8e157 cJ3_checkIndex_8e157 3 (some .int)])
def wsJ2_getChar_3b067 : List Cond := .code yJ2_getChar_3b067 cJ2_getChar_3b067 2 (some .char) :: ([.fieldLink RJ2 44 "java/lang/StringUTF16" "$assertionsDisabled" "Z", .fieldLink RJ2 59 "java/lang/StringUTF16" "HI_BYTE_SHIFT" "I", .fieldLink RJ2 63 "java/lang/StringUTF16" "LO_BYTE_SHIFT" "I", .methodLink RJ2 48 yJ2_length_9d52b, .static yJ2_length_9d52b, .initialized RJ2, .code yJ2_length_9d52b cJ2_length_9d52b 1 (some .int)])
def wsJ2_charAt_3b067 : List Cond := .code yJ2_charAt_3b067 cJ2_charAt_3b067 2 (some .char) :: ([.methodLink RJ2 67 yJ2_checkIndex_2214a, .static yJ2_checkIndex_2214a, .initialized RJ2, .code yJ2_checkIndex_2214a cJ2_checkIndex_2214a 2 none, .methodLink RJ2 48 yJ2_length_9d52b, .static yJ2_length_9d52b, .code yJ2_length_9d52b cJ2_length_9d52b 1 (some .int), .methodLink RJ2 414 yJ0_checkIndex_df160, .static yJ0_checkIndex_df160, .initialized RJ0, .code yJ0_checkIndex_df160 cJ0_checkIndex_df160 2 none, .fieldLink RJ0 1053 "jdk/internal/util/Preconditions" "SIOOBE_FORMATTER" "Ljava/util/function/BiFunction;", .methodLink RJ0 1059 yJ3_checkIndex_8e157, .static yJ3_checkIndex_8e157, .initialized RJ3, .code yJ3_checkIndex_8e157 cJ3_checkIndex_8e157 3 (some .int), .methodLink RJ2 71 yJ2_getChar_3b067, .static yJ2_getChar_3b067, .code yJ2_getChar_3b067 cJ2_getChar_3b067 2 (some .char), .fieldLink RJ2 44 "java/lang/StringUTF16" "$assertionsDisabled" "Z", .fieldLink RJ2 59 "java/lang/StringUTF16" "HI_BYTE_SHIFT" "I", .fieldLink RJ2 63 "java/lang/StringUTF16" "LO_BYTE_SHIFT" "I"])
def wsJ0_charAt_5068e_r1 : List Cond := [Cond.fieldLink RJ0 9 "java/lang/String" "value" "[B", Cond.methodLink RJ0 492 yJ0_isLatin1_aae02, Cond.instanceMethod yJ0_isLatin1_aae02, Cond.selects RJ0 yJ0_isLatin1_aae02 yJ0_isLatin1_aae02, Cond.initialized RJ0, Cond.code yJ0_isLatin1_aae02 cJ0_isLatin1_aae02 1 (some .boolean), Cond.fieldLink RJ0 38 "java/lang/String" "COMPACT_STRINGS" "Z", Cond.fieldLink RJ0 15 "java/lang/String" "coder" "B", Cond.methodLink RJ0 495 yJ1_charAt_3b067, Cond.static yJ1_charAt_3b067, Cond.initialized RJ1, Cond.code yJ1_charAt_3b067 cJ1_charAt_3b067 2 (some .char), Cond.methodLink RJ1 9 yJ0_checkIndex_df160, Cond.static yJ0_checkIndex_df160, Cond.code yJ0_checkIndex_df160 cJ0_checkIndex_df160 2 none, Cond.fieldLink RJ0 1053 "jdk/internal/util/Preconditions" "SIOOBE_FORMATTER" "Ljava/util/function/BiFunction;", Cond.methodLink RJ0 1059 yJ3_checkIndex_8e157, Cond.static yJ3_checkIndex_8e157, Cond.initialized RJ3, Cond.code yJ3_checkIndex_8e157 cJ3_checkIndex_8e157 3 (some .int), Cond.methodLink RJ0 498 yJ2_charAt_3b067, Cond.static yJ2_charAt_3b067, Cond.initialized RJ2, Cond.code yJ2_charAt_3b067 cJ2_charAt_3b067 2 (some .char)]
def wsJ0_charAt_5068e_r2 : List Cond := [Cond.methodLink RJ2 67 yJ2_checkIndex_2214a, Cond.static yJ2_checkIndex_2214a, Cond.code yJ2_checkIndex_2214a cJ2_checkIndex_2214a 2 none, Cond.methodLink RJ2 48 yJ2_length_9d52b, Cond.static yJ2_length_9d52b, Cond.code yJ2_length_9d52b cJ2_length_9d52b 1 (some .int), Cond.methodLink RJ2 414 yJ0_checkIndex_df160, Cond.methodLink RJ2 71 yJ2_getChar_3b067, Cond.static yJ2_getChar_3b067, Cond.code yJ2_getChar_3b067 cJ2_getChar_3b067 2 (some .char), Cond.fieldLink RJ2 44 "java/lang/StringUTF16" "$assertionsDisabled" "Z", Cond.fieldLink RJ2 59 "java/lang/StringUTF16" "HI_BYTE_SHIFT" "I", Cond.fieldLink RJ2 63 "java/lang/StringUTF16" "LO_BYTE_SHIFT" "I"]
def wsJ0_charAt_5068e : List Cond := .code yJ0_charAt_5068e cJ0_charAt_5068e 2 (some .char) :: ((wsJ0_charAt_5068e_r1 ++ wsJ0_charAt_5068e_r2))
def wsX10_isWord_r1 : List Cond := [Cond.fieldLink RX10 37 "SilkMill$Tape" "token" "I", Cond.fieldLink RX10 31 "SilkMill$Tape" "behind" "I", Cond.fieldLink RX10 79 "SilkMill$Tape" "start" "I", Cond.methodLink RX10 123 yJ0_length_8abf5, Cond.instanceMethod yJ0_length_8abf5, Cond.selects RJ0 yJ0_length_8abf5 yJ0_length_8abf5, Cond.initialized RJ0, Cond.code yJ0_length_8abf5 cJ0_length_8abf5 1 (some .int), Cond.fieldLink RJ0 9 "java/lang/String" "value" "[B", Cond.methodLink RJ0 335 yJ0_coder_7d493, Cond.instanceMethod yJ0_coder_7d493, Cond.selects RJ0 yJ0_coder_7d493 yJ0_coder_7d493, Cond.code yJ0_coder_7d493 cJ0_coder_7d493 1 (some .byte), Cond.fieldLink RJ0 38 "java/lang/String" "COMPACT_STRINGS" "Z", Cond.fieldLink RJ0 15 "java/lang/String" "coder" "B", Cond.methodLink RX10 82 yX10_byteAt, Cond.instanceMethod yX10_byteAt, Cond.selects RX10 yX10_byteAt yX10_byteAt, Cond.initialized RX10, Cond.code yX10_byteAt cX10_byteAt 2 (some .int), Cond.fieldLink RX10 19 "SilkMill$Tape" "size" "I", Cond.fieldLink RX10 15 "SilkMill$Tape" "bytes" "[B", Cond.methodLink RX10 128 yJ0_charAt_5068e, Cond.instanceMethod yJ0_charAt_5068e]
def wsX10_isWord_r2 : List Cond := [Cond.selects RJ0 yJ0_charAt_5068e yJ0_charAt_5068e, Cond.code yJ0_charAt_5068e cJ0_charAt_5068e 2 (some .char), Cond.methodLink RJ0 492 yJ0_isLatin1_aae02, Cond.instanceMethod yJ0_isLatin1_aae02, Cond.selects RJ0 yJ0_isLatin1_aae02 yJ0_isLatin1_aae02, Cond.code yJ0_isLatin1_aae02 cJ0_isLatin1_aae02 1 (some .boolean), Cond.methodLink RJ0 495 yJ1_charAt_3b067, Cond.static yJ1_charAt_3b067, Cond.initialized RJ1, Cond.code yJ1_charAt_3b067 cJ1_charAt_3b067 2 (some .char), Cond.methodLink RJ1 9 yJ0_checkIndex_df160, Cond.static yJ0_checkIndex_df160, Cond.code yJ0_checkIndex_df160 cJ0_checkIndex_df160 2 none, Cond.fieldLink RJ0 1053 "jdk/internal/util/Preconditions" "SIOOBE_FORMATTER" "Ljava/util/function/BiFunction;", Cond.methodLink RJ0 1059 yJ3_checkIndex_8e157, Cond.static yJ3_checkIndex_8e157, Cond.initialized RJ3, Cond.code yJ3_checkIndex_8e157 cJ3_checkIndex_8e157 3 (some .int), Cond.methodLink RJ0 498 yJ2_charAt_3b067, Cond.static yJ2_charAt_3b067, Cond.initialized RJ2, Cond.code yJ2_charAt_3b067 cJ2_charAt_3b067 2 (some .char), Cond.methodLink RJ2 67 yJ2_checkIndex_2214a, Cond.static yJ2_checkIndex_2214a]
def wsX10_isWord_r3 : List Cond := [Cond.code yJ2_checkIndex_2214a cJ2_checkIndex_2214a 2 none, Cond.methodLink RJ2 48 yJ2_length_9d52b, Cond.static yJ2_length_9d52b, Cond.code yJ2_length_9d52b cJ2_length_9d52b 1 (some .int), Cond.methodLink RJ2 414 yJ0_checkIndex_df160, Cond.methodLink RJ2 71 yJ2_getChar_3b067, Cond.static yJ2_getChar_3b067, Cond.code yJ2_getChar_3b067 cJ2_getChar_3b067 2 (some .char), Cond.fieldLink RJ2 44 "java/lang/StringUTF16" "$assertionsDisabled" "Z", Cond.fieldLink RJ2 59 "java/lang/StringUTF16" "HI_BYTE_SHIFT" "I", Cond.fieldLink RJ2 63 "java/lang/StringUTF16" "LO_BYTE_SHIFT" "I"]
def wsX10_isWord : List Cond := .code yX10_isWord cX10_isWord 3 (some .boolean) :: ((wsX10_isWord_r1 ++ (wsX10_isWord_r2 ++ wsX10_isWord_r3)) ++ wsX100)
def wsX10_actAtHand_r1 : List Cond := [Cond.methodLink RX10 46 yX10_isWord, Cond.instanceMethod yX10_isWord, Cond.selects RX10 yX10_isWord yX10_isWord, Cond.initialized RX10, Cond.code yX10_isWord cX10_isWord 3 (some .boolean), Cond.fieldLink RX10 37 "SilkMill$Tape" "token" "I", Cond.fieldLink RX10 31 "SilkMill$Tape" "behind" "I", Cond.fieldLink RX10 79 "SilkMill$Tape" "start" "I", Cond.methodLink RX10 123 yJ0_length_8abf5, Cond.instanceMethod yJ0_length_8abf5, Cond.selects RJ0 yJ0_length_8abf5 yJ0_length_8abf5, Cond.initialized RJ0, Cond.code yJ0_length_8abf5 cJ0_length_8abf5 1 (some .int), Cond.fieldLink RJ0 9 "java/lang/String" "value" "[B", Cond.methodLink RJ0 335 yJ0_coder_7d493, Cond.instanceMethod yJ0_coder_7d493, Cond.selects RJ0 yJ0_coder_7d493 yJ0_coder_7d493, Cond.code yJ0_coder_7d493 cJ0_coder_7d493 1 (some .byte), Cond.fieldLink RJ0 38 "java/lang/String" "COMPACT_STRINGS" "Z", Cond.fieldLink RJ0 15 "java/lang/String" "coder" "B", Cond.methodLink RX10 82 yX10_byteAt, Cond.instanceMethod yX10_byteAt, Cond.selects RX10 yX10_byteAt yX10_byteAt, Cond.code yX10_byteAt cX10_byteAt 2 (some .int)]
def wsX10_actAtHand_r2 : List Cond := [Cond.fieldLink RX10 19 "SilkMill$Tape" "size" "I", Cond.fieldLink RX10 15 "SilkMill$Tape" "bytes" "[B", Cond.methodLink RX10 128 yJ0_charAt_5068e, Cond.instanceMethod yJ0_charAt_5068e, Cond.selects RJ0 yJ0_charAt_5068e yJ0_charAt_5068e, Cond.code yJ0_charAt_5068e cJ0_charAt_5068e 2 (some .char), Cond.methodLink RJ0 492 yJ0_isLatin1_aae02, Cond.instanceMethod yJ0_isLatin1_aae02, Cond.selects RJ0 yJ0_isLatin1_aae02 yJ0_isLatin1_aae02, Cond.code yJ0_isLatin1_aae02 cJ0_isLatin1_aae02 1 (some .boolean), Cond.methodLink RJ0 495 yJ1_charAt_3b067, Cond.static yJ1_charAt_3b067, Cond.initialized RJ1, Cond.code yJ1_charAt_3b067 cJ1_charAt_3b067 2 (some .char), Cond.methodLink RJ1 9 yJ0_checkIndex_df160, Cond.static yJ0_checkIndex_df160, Cond.code yJ0_checkIndex_df160 cJ0_checkIndex_df160 2 none, Cond.fieldLink RJ0 1053 "jdk/internal/util/Preconditions" "SIOOBE_FORMATTER" "Ljava/util/function/BiFunction;", Cond.methodLink RJ0 1059 yJ3_checkIndex_8e157, Cond.static yJ3_checkIndex_8e157, Cond.initialized RJ3, Cond.code yJ3_checkIndex_8e157 cJ3_checkIndex_8e157 3 (some .int), Cond.methodLink RJ0 498 yJ2_charAt_3b067, Cond.static yJ2_charAt_3b067]
def wsX10_actAtHand_r3 : List Cond := [Cond.initialized RJ2, Cond.code yJ2_charAt_3b067 cJ2_charAt_3b067 2 (some .char), Cond.methodLink RJ2 67 yJ2_checkIndex_2214a, Cond.static yJ2_checkIndex_2214a, Cond.code yJ2_checkIndex_2214a cJ2_checkIndex_2214a 2 none, Cond.methodLink RJ2 48 yJ2_length_9d52b, Cond.static yJ2_length_9d52b, Cond.code yJ2_length_9d52b cJ2_length_9d52b 1 (some .int), Cond.methodLink RJ2 414 yJ0_checkIndex_df160, Cond.methodLink RJ2 71 yJ2_getChar_3b067, Cond.static yJ2_getChar_3b067, Cond.code yJ2_getChar_3b067 cJ2_getChar_3b067 2 (some .char), Cond.fieldLink RJ2 44 "java/lang/StringUTF16" "$assertionsDisabled" "Z", Cond.fieldLink RJ2 59 "java/lang/StringUTF16" "HI_BYTE_SHIFT" "I", Cond.fieldLink RJ2 63 "java/lang/StringUTF16" "LO_BYTE_SHIFT" "I"]
def wsX10_actAtHand : List Cond := .code yX10_actAtHand cX10_actAtHand 1 (some .int) :: ((wsX10_actAtHand_r1 ++ (wsX10_actAtHand_r2 ++ wsX10_actAtHand_r3)) ++ wsX100)
def wsX10_fail : List Cond := .code yX10_fail cX10_fail 2 (some .boolean) :: ([.fieldLink RX10 22 "SilkMill$Tape" "faultKind" "I", .fieldLink RX10 79 "SilkMill$Tape" "start" "I", .fieldLink RX10 9 "SilkMill$Tape" "faultPlace" "I"] ++ wsX100)
def wsX10_fieldAtHand_r1 : List Cond := [Cond.methodLink RX10 46 yX10_isWord, Cond.instanceMethod yX10_isWord, Cond.selects RX10 yX10_isWord yX10_isWord, Cond.initialized RX10, Cond.code yX10_isWord cX10_isWord 3 (some .boolean), Cond.fieldLink RX10 37 "SilkMill$Tape" "token" "I", Cond.fieldLink RX10 31 "SilkMill$Tape" "behind" "I", Cond.fieldLink RX10 79 "SilkMill$Tape" "start" "I", Cond.methodLink RX10 123 yJ0_length_8abf5, Cond.instanceMethod yJ0_length_8abf5, Cond.selects RJ0 yJ0_length_8abf5 yJ0_length_8abf5, Cond.initialized RJ0, Cond.code yJ0_length_8abf5 cJ0_length_8abf5 1 (some .int), Cond.fieldLink RJ0 9 "java/lang/String" "value" "[B", Cond.methodLink RJ0 335 yJ0_coder_7d493, Cond.instanceMethod yJ0_coder_7d493, Cond.selects RJ0 yJ0_coder_7d493 yJ0_coder_7d493, Cond.code yJ0_coder_7d493 cJ0_coder_7d493 1 (some .byte), Cond.fieldLink RJ0 38 "java/lang/String" "COMPACT_STRINGS" "Z", Cond.fieldLink RJ0 15 "java/lang/String" "coder" "B", Cond.methodLink RX10 82 yX10_byteAt, Cond.instanceMethod yX10_byteAt, Cond.selects RX10 yX10_byteAt yX10_byteAt, Cond.code yX10_byteAt cX10_byteAt 2 (some .int)]
def wsX10_fieldAtHand_r2 : List Cond := [Cond.fieldLink RX10 19 "SilkMill$Tape" "size" "I", Cond.fieldLink RX10 15 "SilkMill$Tape" "bytes" "[B", Cond.methodLink RX10 128 yJ0_charAt_5068e, Cond.instanceMethod yJ0_charAt_5068e, Cond.selects RJ0 yJ0_charAt_5068e yJ0_charAt_5068e, Cond.code yJ0_charAt_5068e cJ0_charAt_5068e 2 (some .char), Cond.methodLink RJ0 492 yJ0_isLatin1_aae02, Cond.instanceMethod yJ0_isLatin1_aae02, Cond.selects RJ0 yJ0_isLatin1_aae02 yJ0_isLatin1_aae02, Cond.code yJ0_isLatin1_aae02 cJ0_isLatin1_aae02 1 (some .boolean), Cond.methodLink RJ0 495 yJ1_charAt_3b067, Cond.static yJ1_charAt_3b067, Cond.initialized RJ1, Cond.code yJ1_charAt_3b067 cJ1_charAt_3b067 2 (some .char), Cond.methodLink RJ1 9 yJ0_checkIndex_df160, Cond.static yJ0_checkIndex_df160, Cond.code yJ0_checkIndex_df160 cJ0_checkIndex_df160 2 none, Cond.fieldLink RJ0 1053 "jdk/internal/util/Preconditions" "SIOOBE_FORMATTER" "Ljava/util/function/BiFunction;", Cond.methodLink RJ0 1059 yJ3_checkIndex_8e157, Cond.static yJ3_checkIndex_8e157, Cond.initialized RJ3, Cond.code yJ3_checkIndex_8e157 cJ3_checkIndex_8e157 3 (some .int), Cond.methodLink RJ0 498 yJ2_charAt_3b067, Cond.static yJ2_charAt_3b067]
def wsX10_fieldAtHand_r3 : List Cond := [Cond.initialized RJ2, Cond.code yJ2_charAt_3b067 cJ2_charAt_3b067 2 (some .char), Cond.methodLink RJ2 67 yJ2_checkIndex_2214a, Cond.static yJ2_checkIndex_2214a, Cond.code yJ2_checkIndex_2214a cJ2_checkIndex_2214a 2 none, Cond.methodLink RJ2 48 yJ2_length_9d52b, Cond.static yJ2_length_9d52b, Cond.code yJ2_length_9d52b cJ2_length_9d52b 1 (some .int), Cond.methodLink RJ2 414 yJ0_checkIndex_df160, Cond.methodLink RJ2 71 yJ2_getChar_3b067, Cond.static yJ2_getChar_3b067, Cond.code yJ2_getChar_3b067 cJ2_getChar_3b067 2 (some .char), Cond.fieldLink RJ2 44 "java/lang/StringUTF16" "$assertionsDisabled" "Z", Cond.fieldLink RJ2 59 "java/lang/StringUTF16" "HI_BYTE_SHIFT" "I", Cond.fieldLink RJ2 63 "java/lang/StringUTF16" "LO_BYTE_SHIFT" "I"]
def wsX10_fieldAtHand : List Cond := .code yX10_fieldAtHand cX10_fieldAtHand 1 (some .int) :: ((wsX10_fieldAtHand_r1 ++ (wsX10_fieldAtHand_r2 ++ wsX10_fieldAtHand_r3)) ++ wsX100)
def wsX10_isSign : List Cond := .code yX10_isSign cX10_isSign 2 (some .boolean) :: ([.fieldLink RX10 37 "SilkMill$Tape" "token" "I", .fieldLink RX10 79 "SilkMill$Tape" "start" "I", .methodLink RX10 82 yX10_byteAt, .instanceMethod yX10_byteAt, .selects RX10 yX10_byteAt yX10_byteAt, .initialized RX10, .code yX10_byteAt cX10_byteAt 2 (some .int), .fieldLink RX10 19 "SilkMill$Tape" "size" "I", .fieldLink RX10 15 "SilkMill$Tape" "bytes" "[B"] ++ wsX100)
def wsX10_numberAtHand : List Cond := .code yX10_numberAtHand cX10_numberAtHand 3 (some .int) :: ([.fieldLink RX10 79 "SilkMill$Tape" "start" "I", .fieldLink RX10 31 "SilkMill$Tape" "behind" "I", .methodLink RX10 82 yX10_byteAt, .instanceMethod yX10_byteAt, .selects RX10 yX10_byteAt yX10_byteAt, .initialized RX10, .code yX10_byteAt cX10_byteAt 2 (some .int), .fieldLink RX10 19 "SilkMill$Tape" "size" "I", .fieldLink RX10 15 "SilkMill$Tape" "bytes" "[B"] ++ wsX100)
def wsX10_readCondition_r1 : List Cond := [Cond.fieldLink RX10 79 "SilkMill$Tape" "start" "I", Cond.fieldLink RX10 37 "SilkMill$Tape" "token" "I", Cond.methodLink RX10 76 yX10_fieldAtHand, Cond.instanceMethod yX10_fieldAtHand, Cond.selects RX10 yX10_fieldAtHand yX10_fieldAtHand, Cond.initialized RX10, Cond.code yX10_fieldAtHand cX10_fieldAtHand 1 (some .int), Cond.methodLink RX10 46 yX10_isWord, Cond.instanceMethod yX10_isWord, Cond.selects RX10 yX10_isWord yX10_isWord, Cond.code yX10_isWord cX10_isWord 3 (some .boolean), Cond.fieldLink RX10 31 "SilkMill$Tape" "behind" "I", Cond.methodLink RX10 123 yJ0_length_8abf5, Cond.instanceMethod yJ0_length_8abf5, Cond.selects RJ0 yJ0_length_8abf5 yJ0_length_8abf5, Cond.initialized RJ0, Cond.code yJ0_length_8abf5 cJ0_length_8abf5 1 (some .int), Cond.fieldLink RJ0 9 "java/lang/String" "value" "[B", Cond.methodLink RJ0 335 yJ0_coder_7d493, Cond.instanceMethod yJ0_coder_7d493, Cond.selects RJ0 yJ0_coder_7d493 yJ0_coder_7d493, Cond.code yJ0_coder_7d493 cJ0_coder_7d493 1 (some .byte), Cond.fieldLink RJ0 38 "java/lang/String" "COMPACT_STRINGS" "Z", Cond.fieldLink RJ0 15 "java/lang/String" "coder" "B"]
def wsX10_readCondition_r2 : List Cond := [Cond.methodLink RX10 82 yX10_byteAt, Cond.instanceMethod yX10_byteAt, Cond.selects RX10 yX10_byteAt yX10_byteAt, Cond.code yX10_byteAt cX10_byteAt 2 (some .int), Cond.fieldLink RX10 19 "SilkMill$Tape" "size" "I", Cond.fieldLink RX10 15 "SilkMill$Tape" "bytes" "[B", Cond.methodLink RX10 128 yJ0_charAt_5068e, Cond.instanceMethod yJ0_charAt_5068e, Cond.selects RJ0 yJ0_charAt_5068e yJ0_charAt_5068e, Cond.code yJ0_charAt_5068e cJ0_charAt_5068e 2 (some .char), Cond.methodLink RJ0 492 yJ0_isLatin1_aae02, Cond.instanceMethod yJ0_isLatin1_aae02, Cond.selects RJ0 yJ0_isLatin1_aae02 yJ0_isLatin1_aae02, Cond.code yJ0_isLatin1_aae02 cJ0_isLatin1_aae02 1 (some .boolean), Cond.methodLink RJ0 495 yJ1_charAt_3b067, Cond.static yJ1_charAt_3b067, Cond.initialized RJ1, Cond.code yJ1_charAt_3b067 cJ1_charAt_3b067 2 (some .char), Cond.methodLink RJ1 9 yJ0_checkIndex_df160, Cond.static yJ0_checkIndex_df160, Cond.code yJ0_checkIndex_df160 cJ0_checkIndex_df160 2 none, Cond.fieldLink RJ0 1053 "jdk/internal/util/Preconditions" "SIOOBE_FORMATTER" "Ljava/util/function/BiFunction;", Cond.methodLink RJ0 1059 yJ3_checkIndex_8e157, Cond.static yJ3_checkIndex_8e157]
def wsX10_readCondition_r3 : List Cond := [Cond.initialized RJ3, Cond.code yJ3_checkIndex_8e157 cJ3_checkIndex_8e157 3 (some .int), Cond.methodLink RJ0 498 yJ2_charAt_3b067, Cond.static yJ2_charAt_3b067, Cond.initialized RJ2, Cond.code yJ2_charAt_3b067 cJ2_charAt_3b067 2 (some .char), Cond.methodLink RJ2 67 yJ2_checkIndex_2214a, Cond.static yJ2_checkIndex_2214a, Cond.code yJ2_checkIndex_2214a cJ2_checkIndex_2214a 2 none, Cond.methodLink RJ2 48 yJ2_length_9d52b, Cond.static yJ2_length_9d52b, Cond.code yJ2_length_9d52b cJ2_length_9d52b 1 (some .int), Cond.methodLink RJ2 414 yJ0_checkIndex_df160, Cond.methodLink RJ2 71 yJ2_getChar_3b067, Cond.static yJ2_getChar_3b067, Cond.code yJ2_getChar_3b067 cJ2_getChar_3b067 2 (some .char), Cond.fieldLink RJ2 44 "java/lang/StringUTF16" "$assertionsDisabled" "Z", Cond.fieldLink RJ2 59 "java/lang/StringUTF16" "HI_BYTE_SHIFT" "I", Cond.fieldLink RJ2 63 "java/lang/StringUTF16" "LO_BYTE_SHIFT" "I", Cond.methodLink RX10 54 yX10_fail, Cond.instanceMethod yX10_fail, Cond.selects RX10 yX10_fail yX10_fail, Cond.code yX10_fail cX10_fail 2 (some .boolean), Cond.fieldLink RX10 22 "SilkMill$Tape" "faultKind" "I"]
def wsX10_readCondition_r4 : List Cond := [Cond.fieldLink RX10 9 "SilkMill$Tape" "faultPlace" "I", Cond.methodLink RX10 34 yX10_advance, Cond.instanceMethod yX10_advance, Cond.selects RX10 yX10_advance yX10_advance, Cond.code yX10_advance cX10_advance 1 none, Cond.methodLink RX10 132 yX10_isBlank, Cond.static yX10_isBlank, Cond.code yX10_isBlank cX10_isBlank 1 (some .boolean), Cond.methodLink RX10 135 yX10_isLetter, Cond.static yX10_isLetter, Cond.code yX10_isLetter cX10_isLetter 1 (some .boolean), Cond.methodLink RX10 138 yX10_isDigit, Cond.static yX10_isDigit, Cond.code yX10_isDigit cX10_isDigit 1 (some .boolean), Cond.methodLink RX10 141 yX10_isSignByte, Cond.static yX10_isSignByte, Cond.code yX10_isSignByte cX10_isSignByte 1 (some .boolean), Cond.methodLink RX10 70 yX10_isSign, Cond.instanceMethod yX10_isSign, Cond.selects RX10 yX10_isSign yX10_isSign, Cond.code yX10_isSign cX10_isSign 2 (some .boolean), Cond.methodLink RX10 86 yX10_numberAtHand, Cond.instanceMethod yX10_numberAtHand, Cond.selects RX10 yX10_numberAtHand yX10_numberAtHand]
def wsX10_readCondition_r5 : List Cond := [Cond.code yX10_numberAtHand cX10_numberAtHand 3 (some .int), Cond.methodLink RX10 89 yX6_addCondition, Cond.instanceMethod yX6_addCondition, Cond.selects RX6 yX6_addCondition yX6_addCondition, Cond.initialized RX6, Cond.code yX6_addCondition cX6_addCondition 5 none, Cond.fieldLink RX6 30 "SilkMill$Rules" "size" "I", Cond.fieldLink RX6 18 "SilkMill$Rules" "conditions" "[I", Cond.fieldLink RX6 21 "SilkMill$Rules" "fields" "[I", Cond.fieldLink RX6 24 "SilkMill$Rules" "relations" "[I", Cond.fieldLink RX6 27 "SilkMill$Rules" "numbers" "[I"]
def wsX10_readCondition : List Cond := .code yX10_readCondition cX10_readCondition 4 (some .boolean) :: ((wsX10_readCondition_r1 ++ (wsX10_readCondition_r2 ++ (wsX10_readCondition_r3 ++ (wsX10_readCondition_r4 ++ wsX10_readCondition_r5)))) ++ wsX100 ++ wsX60)
def wsX10_readConditions_r1 : List Cond := [Cond.methodLink RX10 67 yX10_readCondition, Cond.instanceMethod yX10_readCondition, Cond.selects RX10 yX10_readCondition yX10_readCondition, Cond.initialized RX10, Cond.code yX10_readCondition cX10_readCondition 4 (some .boolean), Cond.fieldLink RX10 79 "SilkMill$Tape" "start" "I", Cond.fieldLink RX10 37 "SilkMill$Tape" "token" "I", Cond.methodLink RX10 76 yX10_fieldAtHand, Cond.instanceMethod yX10_fieldAtHand, Cond.selects RX10 yX10_fieldAtHand yX10_fieldAtHand, Cond.code yX10_fieldAtHand cX10_fieldAtHand 1 (some .int), Cond.methodLink RX10 46 yX10_isWord, Cond.instanceMethod yX10_isWord, Cond.selects RX10 yX10_isWord yX10_isWord, Cond.code yX10_isWord cX10_isWord 3 (some .boolean), Cond.fieldLink RX10 31 "SilkMill$Tape" "behind" "I", Cond.methodLink RX10 123 yJ0_length_8abf5, Cond.instanceMethod yJ0_length_8abf5, Cond.selects RJ0 yJ0_length_8abf5 yJ0_length_8abf5, Cond.initialized RJ0, Cond.code yJ0_length_8abf5 cJ0_length_8abf5 1 (some .int), Cond.fieldLink RJ0 9 "java/lang/String" "value" "[B", Cond.methodLink RJ0 335 yJ0_coder_7d493, Cond.instanceMethod yJ0_coder_7d493]
def wsX10_readConditions_r2 : List Cond := [Cond.selects RJ0 yJ0_coder_7d493 yJ0_coder_7d493, Cond.code yJ0_coder_7d493 cJ0_coder_7d493 1 (some .byte), Cond.fieldLink RJ0 38 "java/lang/String" "COMPACT_STRINGS" "Z", Cond.fieldLink RJ0 15 "java/lang/String" "coder" "B", Cond.methodLink RX10 82 yX10_byteAt, Cond.instanceMethod yX10_byteAt, Cond.selects RX10 yX10_byteAt yX10_byteAt, Cond.code yX10_byteAt cX10_byteAt 2 (some .int), Cond.fieldLink RX10 19 "SilkMill$Tape" "size" "I", Cond.fieldLink RX10 15 "SilkMill$Tape" "bytes" "[B", Cond.methodLink RX10 128 yJ0_charAt_5068e, Cond.instanceMethod yJ0_charAt_5068e, Cond.selects RJ0 yJ0_charAt_5068e yJ0_charAt_5068e, Cond.code yJ0_charAt_5068e cJ0_charAt_5068e 2 (some .char), Cond.methodLink RJ0 492 yJ0_isLatin1_aae02, Cond.instanceMethod yJ0_isLatin1_aae02, Cond.selects RJ0 yJ0_isLatin1_aae02 yJ0_isLatin1_aae02, Cond.code yJ0_isLatin1_aae02 cJ0_isLatin1_aae02 1 (some .boolean), Cond.methodLink RJ0 495 yJ1_charAt_3b067, Cond.static yJ1_charAt_3b067, Cond.initialized RJ1, Cond.code yJ1_charAt_3b067 cJ1_charAt_3b067 2 (some .char), Cond.methodLink RJ1 9 yJ0_checkIndex_df160, Cond.static yJ0_checkIndex_df160]
def wsX10_readConditions_r3 : List Cond := [Cond.code yJ0_checkIndex_df160 cJ0_checkIndex_df160 2 none, Cond.fieldLink RJ0 1053 "jdk/internal/util/Preconditions" "SIOOBE_FORMATTER" "Ljava/util/function/BiFunction;", Cond.methodLink RJ0 1059 yJ3_checkIndex_8e157, Cond.static yJ3_checkIndex_8e157, Cond.initialized RJ3, Cond.code yJ3_checkIndex_8e157 cJ3_checkIndex_8e157 3 (some .int), Cond.methodLink RJ0 498 yJ2_charAt_3b067, Cond.static yJ2_charAt_3b067, Cond.initialized RJ2, Cond.code yJ2_charAt_3b067 cJ2_charAt_3b067 2 (some .char), Cond.methodLink RJ2 67 yJ2_checkIndex_2214a, Cond.static yJ2_checkIndex_2214a, Cond.code yJ2_checkIndex_2214a cJ2_checkIndex_2214a 2 none, Cond.methodLink RJ2 48 yJ2_length_9d52b, Cond.static yJ2_length_9d52b, Cond.code yJ2_length_9d52b cJ2_length_9d52b 1 (some .int), Cond.methodLink RJ2 414 yJ0_checkIndex_df160, Cond.methodLink RJ2 71 yJ2_getChar_3b067, Cond.static yJ2_getChar_3b067, Cond.code yJ2_getChar_3b067 cJ2_getChar_3b067 2 (some .char), Cond.fieldLink RJ2 44 "java/lang/StringUTF16" "$assertionsDisabled" "Z", Cond.fieldLink RJ2 59 "java/lang/StringUTF16" "HI_BYTE_SHIFT" "I", Cond.fieldLink RJ2 63 "java/lang/StringUTF16" "LO_BYTE_SHIFT" "I", Cond.methodLink RX10 54 yX10_fail]
def wsX10_readConditions_r4 : List Cond := [Cond.instanceMethod yX10_fail, Cond.selects RX10 yX10_fail yX10_fail, Cond.code yX10_fail cX10_fail 2 (some .boolean), Cond.fieldLink RX10 22 "SilkMill$Tape" "faultKind" "I", Cond.fieldLink RX10 9 "SilkMill$Tape" "faultPlace" "I", Cond.methodLink RX10 34 yX10_advance, Cond.instanceMethod yX10_advance, Cond.selects RX10 yX10_advance yX10_advance, Cond.code yX10_advance cX10_advance 1 none, Cond.methodLink RX10 132 yX10_isBlank, Cond.static yX10_isBlank, Cond.code yX10_isBlank cX10_isBlank 1 (some .boolean), Cond.methodLink RX10 135 yX10_isLetter, Cond.static yX10_isLetter, Cond.code yX10_isLetter cX10_isLetter 1 (some .boolean), Cond.methodLink RX10 138 yX10_isDigit, Cond.static yX10_isDigit, Cond.code yX10_isDigit cX10_isDigit 1 (some .boolean), Cond.methodLink RX10 141 yX10_isSignByte, Cond.static yX10_isSignByte, Cond.code yX10_isSignByte cX10_isSignByte 1 (some .boolean), Cond.methodLink RX10 70 yX10_isSign, Cond.instanceMethod yX10_isSign, Cond.selects RX10 yX10_isSign yX10_isSign]
def wsX10_readConditions_r5 : List Cond := [Cond.code yX10_isSign cX10_isSign 2 (some .boolean), Cond.methodLink RX10 86 yX10_numberAtHand, Cond.instanceMethod yX10_numberAtHand, Cond.selects RX10 yX10_numberAtHand yX10_numberAtHand, Cond.code yX10_numberAtHand cX10_numberAtHand 3 (some .int), Cond.methodLink RX10 89 yX6_addCondition, Cond.instanceMethod yX6_addCondition, Cond.selects RX6 yX6_addCondition yX6_addCondition, Cond.initialized RX6, Cond.code yX6_addCondition cX6_addCondition 5 none, Cond.fieldLink RX6 30 "SilkMill$Rules" "size" "I", Cond.fieldLink RX6 18 "SilkMill$Rules" "conditions" "[I", Cond.fieldLink RX6 21 "SilkMill$Rules" "fields" "[I", Cond.fieldLink RX6 24 "SilkMill$Rules" "relations" "[I", Cond.fieldLink RX6 27 "SilkMill$Rules" "numbers" "[I"]
def wsX10_readConditions : List Cond := .code yX10_readConditions cX10_readConditions 3 (some .boolean) :: ((wsX10_readConditions_r1 ++ (wsX10_readConditions_r2 ++ (wsX10_readConditions_r3 ++ (wsX10_readConditions_r4 ++ wsX10_readConditions_r5)))) ++ wsX100 ++ wsX60)
def wsX10_readAct_r1 : List Cond := [Cond.fieldLink RX10 37 "SilkMill$Tape" "token" "I", Cond.methodLink RX10 50 yX10_actAtHand, Cond.instanceMethod yX10_actAtHand, Cond.selects RX10 yX10_actAtHand yX10_actAtHand, Cond.initialized RX10, Cond.code yX10_actAtHand cX10_actAtHand 1 (some .int), Cond.methodLink RX10 46 yX10_isWord, Cond.instanceMethod yX10_isWord, Cond.selects RX10 yX10_isWord yX10_isWord, Cond.code yX10_isWord cX10_isWord 3 (some .boolean), Cond.fieldLink RX10 31 "SilkMill$Tape" "behind" "I", Cond.fieldLink RX10 79 "SilkMill$Tape" "start" "I", Cond.methodLink RX10 123 yJ0_length_8abf5, Cond.instanceMethod yJ0_length_8abf5, Cond.selects RJ0 yJ0_length_8abf5 yJ0_length_8abf5, Cond.initialized RJ0, Cond.code yJ0_length_8abf5 cJ0_length_8abf5 1 (some .int), Cond.fieldLink RJ0 9 "java/lang/String" "value" "[B", Cond.methodLink RJ0 335 yJ0_coder_7d493, Cond.instanceMethod yJ0_coder_7d493, Cond.selects RJ0 yJ0_coder_7d493 yJ0_coder_7d493, Cond.code yJ0_coder_7d493 cJ0_coder_7d493 1 (some .byte), Cond.fieldLink RJ0 38 "java/lang/String" "COMPACT_STRINGS" "Z", Cond.fieldLink RJ0 15 "java/lang/String" "coder" "B"]
def wsX10_readAct_r2 : List Cond := [Cond.methodLink RX10 82 yX10_byteAt, Cond.instanceMethod yX10_byteAt, Cond.selects RX10 yX10_byteAt yX10_byteAt, Cond.code yX10_byteAt cX10_byteAt 2 (some .int), Cond.fieldLink RX10 19 "SilkMill$Tape" "size" "I", Cond.fieldLink RX10 15 "SilkMill$Tape" "bytes" "[B", Cond.methodLink RX10 128 yJ0_charAt_5068e, Cond.instanceMethod yJ0_charAt_5068e, Cond.selects RJ0 yJ0_charAt_5068e yJ0_charAt_5068e, Cond.code yJ0_charAt_5068e cJ0_charAt_5068e 2 (some .char), Cond.methodLink RJ0 492 yJ0_isLatin1_aae02, Cond.instanceMethod yJ0_isLatin1_aae02, Cond.selects RJ0 yJ0_isLatin1_aae02 yJ0_isLatin1_aae02, Cond.code yJ0_isLatin1_aae02 cJ0_isLatin1_aae02 1 (some .boolean), Cond.methodLink RJ0 495 yJ1_charAt_3b067, Cond.static yJ1_charAt_3b067, Cond.initialized RJ1, Cond.code yJ1_charAt_3b067 cJ1_charAt_3b067 2 (some .char), Cond.methodLink RJ1 9 yJ0_checkIndex_df160, Cond.static yJ0_checkIndex_df160, Cond.code yJ0_checkIndex_df160 cJ0_checkIndex_df160 2 none, Cond.fieldLink RJ0 1053 "jdk/internal/util/Preconditions" "SIOOBE_FORMATTER" "Ljava/util/function/BiFunction;", Cond.methodLink RJ0 1059 yJ3_checkIndex_8e157, Cond.static yJ3_checkIndex_8e157]
def wsX10_readAct_r3 : List Cond := [Cond.initialized RJ3, Cond.code yJ3_checkIndex_8e157 cJ3_checkIndex_8e157 3 (some .int), Cond.methodLink RJ0 498 yJ2_charAt_3b067, Cond.static yJ2_charAt_3b067, Cond.initialized RJ2, Cond.code yJ2_charAt_3b067 cJ2_charAt_3b067 2 (some .char), Cond.methodLink RJ2 67 yJ2_checkIndex_2214a, Cond.static yJ2_checkIndex_2214a, Cond.code yJ2_checkIndex_2214a cJ2_checkIndex_2214a 2 none, Cond.methodLink RJ2 48 yJ2_length_9d52b, Cond.static yJ2_length_9d52b, Cond.code yJ2_length_9d52b cJ2_length_9d52b 1 (some .int), Cond.methodLink RJ2 414 yJ0_checkIndex_df160, Cond.methodLink RJ2 71 yJ2_getChar_3b067, Cond.static yJ2_getChar_3b067, Cond.code yJ2_getChar_3b067 cJ2_getChar_3b067 2 (some .char), Cond.fieldLink RJ2 44 "java/lang/StringUTF16" "$assertionsDisabled" "Z", Cond.fieldLink RJ2 59 "java/lang/StringUTF16" "HI_BYTE_SHIFT" "I", Cond.fieldLink RJ2 63 "java/lang/StringUTF16" "LO_BYTE_SHIFT" "I", Cond.methodLink RX10 54 yX10_fail, Cond.instanceMethod yX10_fail, Cond.selects RX10 yX10_fail yX10_fail, Cond.code yX10_fail cX10_fail 2 (some .boolean), Cond.fieldLink RX10 22 "SilkMill$Tape" "faultKind" "I"]
def wsX10_readAct_r4 : List Cond := [Cond.fieldLink RX10 9 "SilkMill$Tape" "faultPlace" "I", Cond.methodLink RX10 34 yX10_advance, Cond.instanceMethod yX10_advance, Cond.selects RX10 yX10_advance yX10_advance, Cond.code yX10_advance cX10_advance 1 none, Cond.methodLink RX10 132 yX10_isBlank, Cond.static yX10_isBlank, Cond.code yX10_isBlank cX10_isBlank 1 (some .boolean), Cond.methodLink RX10 135 yX10_isLetter, Cond.static yX10_isLetter, Cond.code yX10_isLetter cX10_isLetter 1 (some .boolean), Cond.methodLink RX10 138 yX10_isDigit, Cond.static yX10_isDigit, Cond.code yX10_isDigit cX10_isDigit 1 (some .boolean), Cond.methodLink RX10 141 yX10_isSignByte, Cond.static yX10_isSignByte, Cond.code yX10_isSignByte cX10_isSignByte 1 (some .boolean), Cond.methodLink RX10 86 yX10_numberAtHand, Cond.instanceMethod yX10_numberAtHand, Cond.selects RX10 yX10_numberAtHand yX10_numberAtHand, Cond.code yX10_numberAtHand cX10_numberAtHand 3 (some .int), Cond.methodLink RX10 70 yX10_isSign, Cond.instanceMethod yX10_isSign, Cond.selects RX10 yX10_isSign yX10_isSign]
def wsX10_readAct_r5 : List Cond := [Cond.code yX10_isSign cX10_isSign 2 (some .boolean), Cond.methodLink RX10 93 yX6_closeRule, Cond.instanceMethod yX6_closeRule, Cond.selects RX6 yX6_closeRule yX6_closeRule, Cond.initialized RX6, Cond.code yX6_closeRule cX6_closeRule 3 none, Cond.fieldLink RX6 30 "SilkMill$Rules" "size" "I", Cond.fieldLink RX6 9 "SilkMill$Rules" "acts" "[I", Cond.fieldLink RX6 15 "SilkMill$Rules" "amounts" "[I"]
def wsX10_readAct : List Cond := .code yX10_readAct cX10_readAct 4 (some .boolean) :: ((wsX10_readAct_r1 ++ (wsX10_readAct_r2 ++ (wsX10_readAct_r3 ++ (wsX10_readAct_r4 ++ wsX10_readAct_r5)))) ++ wsX100 ++ wsX60)
def wsX10_readRule_r1 : List Cond := [Cond.fieldLink RX10 28 "SilkMill$Rules" "size" "I", Cond.methodLink RX10 46 yX10_isWord, Cond.instanceMethod yX10_isWord, Cond.selects RX10 yX10_isWord yX10_isWord, Cond.initialized RX10, Cond.code yX10_isWord cX10_isWord 3 (some .boolean), Cond.fieldLink RX10 37 "SilkMill$Tape" "token" "I", Cond.fieldLink RX10 31 "SilkMill$Tape" "behind" "I", Cond.fieldLink RX10 79 "SilkMill$Tape" "start" "I", Cond.methodLink RX10 123 yJ0_length_8abf5, Cond.instanceMethod yJ0_length_8abf5, Cond.selects RJ0 yJ0_length_8abf5 yJ0_length_8abf5, Cond.initialized RJ0, Cond.code yJ0_length_8abf5 cJ0_length_8abf5 1 (some .int), Cond.fieldLink RJ0 9 "java/lang/String" "value" "[B", Cond.methodLink RJ0 335 yJ0_coder_7d493, Cond.instanceMethod yJ0_coder_7d493, Cond.selects RJ0 yJ0_coder_7d493 yJ0_coder_7d493, Cond.code yJ0_coder_7d493 cJ0_coder_7d493 1 (some .byte), Cond.fieldLink RJ0 38 "java/lang/String" "COMPACT_STRINGS" "Z", Cond.fieldLink RJ0 15 "java/lang/String" "coder" "B", Cond.methodLink RX10 82 yX10_byteAt, Cond.instanceMethod yX10_byteAt, Cond.selects RX10 yX10_byteAt yX10_byteAt]
def wsX10_readRule_r2 : List Cond := [Cond.code yX10_byteAt cX10_byteAt 2 (some .int), Cond.fieldLink RX10 19 "SilkMill$Tape" "size" "I", Cond.fieldLink RX10 15 "SilkMill$Tape" "bytes" "[B", Cond.methodLink RX10 128 yJ0_charAt_5068e, Cond.instanceMethod yJ0_charAt_5068e, Cond.selects RJ0 yJ0_charAt_5068e yJ0_charAt_5068e, Cond.code yJ0_charAt_5068e cJ0_charAt_5068e 2 (some .char), Cond.methodLink RJ0 492 yJ0_isLatin1_aae02, Cond.instanceMethod yJ0_isLatin1_aae02, Cond.selects RJ0 yJ0_isLatin1_aae02 yJ0_isLatin1_aae02, Cond.code yJ0_isLatin1_aae02 cJ0_isLatin1_aae02 1 (some .boolean), Cond.methodLink RJ0 495 yJ1_charAt_3b067, Cond.static yJ1_charAt_3b067, Cond.initialized RJ1, Cond.code yJ1_charAt_3b067 cJ1_charAt_3b067 2 (some .char), Cond.methodLink RJ1 9 yJ0_checkIndex_df160, Cond.static yJ0_checkIndex_df160, Cond.code yJ0_checkIndex_df160 cJ0_checkIndex_df160 2 none, Cond.fieldLink RJ0 1053 "jdk/internal/util/Preconditions" "SIOOBE_FORMATTER" "Ljava/util/function/BiFunction;", Cond.methodLink RJ0 1059 yJ3_checkIndex_8e157, Cond.static yJ3_checkIndex_8e157, Cond.initialized RJ3, Cond.code yJ3_checkIndex_8e157 cJ3_checkIndex_8e157 3 (some .int), Cond.methodLink RJ0 498 yJ2_charAt_3b067]
def wsX10_readRule_r3 : List Cond := [Cond.static yJ2_charAt_3b067, Cond.initialized RJ2, Cond.code yJ2_charAt_3b067 cJ2_charAt_3b067 2 (some .char), Cond.methodLink RJ2 67 yJ2_checkIndex_2214a, Cond.static yJ2_checkIndex_2214a, Cond.code yJ2_checkIndex_2214a cJ2_checkIndex_2214a 2 none, Cond.methodLink RJ2 48 yJ2_length_9d52b, Cond.static yJ2_length_9d52b, Cond.code yJ2_length_9d52b cJ2_length_9d52b 1 (some .int), Cond.methodLink RJ2 414 yJ0_checkIndex_df160, Cond.methodLink RJ2 71 yJ2_getChar_3b067, Cond.static yJ2_getChar_3b067, Cond.code yJ2_getChar_3b067 cJ2_getChar_3b067 2 (some .char), Cond.fieldLink RJ2 44 "java/lang/StringUTF16" "$assertionsDisabled" "Z", Cond.fieldLink RJ2 59 "java/lang/StringUTF16" "HI_BYTE_SHIFT" "I", Cond.fieldLink RJ2 63 "java/lang/StringUTF16" "LO_BYTE_SHIFT" "I", Cond.methodLink RX10 50 yX10_actAtHand, Cond.instanceMethod yX10_actAtHand, Cond.selects RX10 yX10_actAtHand yX10_actAtHand, Cond.code yX10_actAtHand cX10_actAtHand 1 (some .int), Cond.methodLink RX10 54 yX10_fail, Cond.instanceMethod yX10_fail, Cond.selects RX10 yX10_fail yX10_fail, Cond.code yX10_fail cX10_fail 2 (some .boolean)]
def wsX10_readRule_r4 : List Cond := [Cond.fieldLink RX10 22 "SilkMill$Tape" "faultKind" "I", Cond.fieldLink RX10 9 "SilkMill$Tape" "faultPlace" "I", Cond.methodLink RX10 58 yX6_openRule, Cond.instanceMethod yX6_openRule, Cond.selects RX6 yX6_openRule yX6_openRule, Cond.initialized RX6, Cond.code yX6_openRule cX6_openRule 1 none, Cond.fieldLink RX6 30 "SilkMill$Rules" "size" "I", Cond.fieldLink RX6 18 "SilkMill$Rules" "conditions" "[I", Cond.methodLink RX10 34 yX10_advance, Cond.instanceMethod yX10_advance, Cond.selects RX10 yX10_advance yX10_advance, Cond.code yX10_advance cX10_advance 1 none, Cond.methodLink RX10 132 yX10_isBlank, Cond.static yX10_isBlank, Cond.code yX10_isBlank cX10_isBlank 1 (some .boolean), Cond.methodLink RX10 135 yX10_isLetter, Cond.static yX10_isLetter, Cond.code yX10_isLetter cX10_isLetter 1 (some .boolean), Cond.methodLink RX10 138 yX10_isDigit, Cond.static yX10_isDigit, Cond.code yX10_isDigit cX10_isDigit 1 (some .boolean), Cond.methodLink RX10 141 yX10_isSignByte, Cond.static yX10_isSignByte]
def wsX10_readRule_r5 : List Cond := [Cond.code yX10_isSignByte cX10_isSignByte 1 (some .boolean), Cond.methodLink RX10 61 yX10_readConditions, Cond.instanceMethod yX10_readConditions, Cond.selects RX10 yX10_readConditions yX10_readConditions, Cond.code yX10_readConditions cX10_readConditions 3 (some .boolean), Cond.methodLink RX10 67 yX10_readCondition, Cond.instanceMethod yX10_readCondition, Cond.selects RX10 yX10_readCondition yX10_readCondition, Cond.code yX10_readCondition cX10_readCondition 4 (some .boolean), Cond.methodLink RX10 76 yX10_fieldAtHand, Cond.instanceMethod yX10_fieldAtHand, Cond.selects RX10 yX10_fieldAtHand yX10_fieldAtHand, Cond.code yX10_fieldAtHand cX10_fieldAtHand 1 (some .int), Cond.methodLink RX10 70 yX10_isSign, Cond.instanceMethod yX10_isSign, Cond.selects RX10 yX10_isSign yX10_isSign, Cond.code yX10_isSign cX10_isSign 2 (some .boolean), Cond.methodLink RX10 86 yX10_numberAtHand, Cond.instanceMethod yX10_numberAtHand, Cond.selects RX10 yX10_numberAtHand yX10_numberAtHand, Cond.code yX10_numberAtHand cX10_numberAtHand 3 (some .int), Cond.methodLink RX10 89 yX6_addCondition, Cond.instanceMethod yX6_addCondition, Cond.selects RX6 yX6_addCondition yX6_addCondition]
def wsX10_readRule_r6 : List Cond := [Cond.code yX6_addCondition cX6_addCondition 5 none, Cond.fieldLink RX6 21 "SilkMill$Rules" "fields" "[I", Cond.fieldLink RX6 24 "SilkMill$Rules" "relations" "[I", Cond.fieldLink RX6 27 "SilkMill$Rules" "numbers" "[I", Cond.methodLink RX10 64 yX10_readAct, Cond.instanceMethod yX10_readAct, Cond.selects RX10 yX10_readAct yX10_readAct, Cond.code yX10_readAct cX10_readAct 4 (some .boolean), Cond.methodLink RX10 93 yX6_closeRule, Cond.instanceMethod yX6_closeRule, Cond.selects RX6 yX6_closeRule yX6_closeRule, Cond.code yX6_closeRule cX6_closeRule 3 none, Cond.fieldLink RX6 9 "SilkMill$Rules" "acts" "[I", Cond.fieldLink RX6 15 "SilkMill$Rules" "amounts" "[I"]
def wsX10_readRule : List Cond := .code yX10_readRule cX10_readRule 3 (some .boolean) :: ((wsX10_readRule_r1 ++ (wsX10_readRule_r2 ++ (wsX10_readRule_r3 ++ (wsX10_readRule_r4 ++ (wsX10_readRule_r5 ++ wsX10_readRule_r6))))) ++ wsX60 ++ wsX100)
def wsX10_readInto_r1 : List Cond := [Cond.fieldLink RX10 28 "SilkMill$Rules" "size" "I", Cond.fieldLink RX10 31 "SilkMill$Tape" "behind" "I", Cond.fieldLink RX10 37 "SilkMill$Tape" "token" "I", Cond.methodLink RX10 25 yX10_forgetFault, Cond.instanceMethod yX10_forgetFault, Cond.selects RX10 yX10_forgetFault yX10_forgetFault, Cond.initialized RX10, Cond.code yX10_forgetFault cX10_forgetFault 1 none, Cond.fieldLink RX10 22 "SilkMill$Tape" "faultKind" "I", Cond.fieldLink RX10 9 "SilkMill$Tape" "faultPlace" "I", Cond.methodLink RX10 34 yX10_advance, Cond.instanceMethod yX10_advance, Cond.selects RX10 yX10_advance yX10_advance, Cond.code yX10_advance cX10_advance 1 none, Cond.fieldLink RX10 79 "SilkMill$Tape" "start" "I", Cond.fieldLink RX10 19 "SilkMill$Tape" "size" "I", Cond.methodLink RX10 82 yX10_byteAt, Cond.instanceMethod yX10_byteAt, Cond.selects RX10 yX10_byteAt yX10_byteAt, Cond.code yX10_byteAt cX10_byteAt 2 (some .int), Cond.fieldLink RX10 15 "SilkMill$Tape" "bytes" "[B", Cond.methodLink RX10 132 yX10_isBlank, Cond.static yX10_isBlank, Cond.code yX10_isBlank cX10_isBlank 1 (some .boolean)]
def wsX10_readInto_r2 : List Cond := [Cond.methodLink RX10 135 yX10_isLetter, Cond.static yX10_isLetter, Cond.code yX10_isLetter cX10_isLetter 1 (some .boolean), Cond.methodLink RX10 138 yX10_isDigit, Cond.static yX10_isDigit, Cond.code yX10_isDigit cX10_isDigit 1 (some .boolean), Cond.methodLink RX10 141 yX10_isSignByte, Cond.static yX10_isSignByte, Cond.code yX10_isSignByte cX10_isSignByte 1 (some .boolean), Cond.methodLink RX10 40 yX10_readRule, Cond.instanceMethod yX10_readRule, Cond.selects RX10 yX10_readRule yX10_readRule, Cond.code yX10_readRule cX10_readRule 3 (some .boolean), Cond.methodLink RX10 46 yX10_isWord, Cond.instanceMethod yX10_isWord, Cond.selects RX10 yX10_isWord yX10_isWord, Cond.code yX10_isWord cX10_isWord 3 (some .boolean), Cond.methodLink RX10 123 yJ0_length_8abf5, Cond.instanceMethod yJ0_length_8abf5, Cond.selects RJ0 yJ0_length_8abf5 yJ0_length_8abf5, Cond.initialized RJ0, Cond.code yJ0_length_8abf5 cJ0_length_8abf5 1 (some .int), Cond.fieldLink RJ0 9 "java/lang/String" "value" "[B", Cond.methodLink RJ0 335 yJ0_coder_7d493]
def wsX10_readInto_r3 : List Cond := [Cond.instanceMethod yJ0_coder_7d493, Cond.selects RJ0 yJ0_coder_7d493 yJ0_coder_7d493, Cond.code yJ0_coder_7d493 cJ0_coder_7d493 1 (some .byte), Cond.fieldLink RJ0 38 "java/lang/String" "COMPACT_STRINGS" "Z", Cond.fieldLink RJ0 15 "java/lang/String" "coder" "B", Cond.methodLink RX10 128 yJ0_charAt_5068e, Cond.instanceMethod yJ0_charAt_5068e, Cond.selects RJ0 yJ0_charAt_5068e yJ0_charAt_5068e, Cond.code yJ0_charAt_5068e cJ0_charAt_5068e 2 (some .char), Cond.methodLink RJ0 492 yJ0_isLatin1_aae02, Cond.instanceMethod yJ0_isLatin1_aae02, Cond.selects RJ0 yJ0_isLatin1_aae02 yJ0_isLatin1_aae02, Cond.code yJ0_isLatin1_aae02 cJ0_isLatin1_aae02 1 (some .boolean), Cond.methodLink RJ0 495 yJ1_charAt_3b067, Cond.static yJ1_charAt_3b067, Cond.initialized RJ1, Cond.code yJ1_charAt_3b067 cJ1_charAt_3b067 2 (some .char), Cond.methodLink RJ1 9 yJ0_checkIndex_df160, Cond.static yJ0_checkIndex_df160, Cond.code yJ0_checkIndex_df160 cJ0_checkIndex_df160 2 none, Cond.fieldLink RJ0 1053 "jdk/internal/util/Preconditions" "SIOOBE_FORMATTER" "Ljava/util/function/BiFunction;", Cond.methodLink RJ0 1059 yJ3_checkIndex_8e157, Cond.static yJ3_checkIndex_8e157, Cond.initialized RJ3]
def wsX10_readInto_r4 : List Cond := [Cond.code yJ3_checkIndex_8e157 cJ3_checkIndex_8e157 3 (some .int), Cond.methodLink RJ0 498 yJ2_charAt_3b067, Cond.static yJ2_charAt_3b067, Cond.initialized RJ2, Cond.code yJ2_charAt_3b067 cJ2_charAt_3b067 2 (some .char), Cond.methodLink RJ2 67 yJ2_checkIndex_2214a, Cond.static yJ2_checkIndex_2214a, Cond.code yJ2_checkIndex_2214a cJ2_checkIndex_2214a 2 none, Cond.methodLink RJ2 48 yJ2_length_9d52b, Cond.static yJ2_length_9d52b, Cond.code yJ2_length_9d52b cJ2_length_9d52b 1 (some .int), Cond.methodLink RJ2 414 yJ0_checkIndex_df160, Cond.methodLink RJ2 71 yJ2_getChar_3b067, Cond.static yJ2_getChar_3b067, Cond.code yJ2_getChar_3b067 cJ2_getChar_3b067 2 (some .char), Cond.fieldLink RJ2 44 "java/lang/StringUTF16" "$assertionsDisabled" "Z", Cond.fieldLink RJ2 59 "java/lang/StringUTF16" "HI_BYTE_SHIFT" "I", Cond.fieldLink RJ2 63 "java/lang/StringUTF16" "LO_BYTE_SHIFT" "I", Cond.methodLink RX10 50 yX10_actAtHand, Cond.instanceMethod yX10_actAtHand, Cond.selects RX10 yX10_actAtHand yX10_actAtHand, Cond.code yX10_actAtHand cX10_actAtHand 1 (some .int), Cond.methodLink RX10 54 yX10_fail, Cond.instanceMethod yX10_fail]
def wsX10_readInto_r5 : List Cond := [Cond.selects RX10 yX10_fail yX10_fail, Cond.code yX10_fail cX10_fail 2 (some .boolean), Cond.methodLink RX10 58 yX6_openRule, Cond.instanceMethod yX6_openRule, Cond.selects RX6 yX6_openRule yX6_openRule, Cond.initialized RX6, Cond.code yX6_openRule cX6_openRule 1 none, Cond.fieldLink RX6 30 "SilkMill$Rules" "size" "I", Cond.fieldLink RX6 18 "SilkMill$Rules" "conditions" "[I", Cond.methodLink RX10 61 yX10_readConditions, Cond.instanceMethod yX10_readConditions, Cond.selects RX10 yX10_readConditions yX10_readConditions, Cond.code yX10_readConditions cX10_readConditions 3 (some .boolean), Cond.methodLink RX10 67 yX10_readCondition, Cond.instanceMethod yX10_readCondition, Cond.selects RX10 yX10_readCondition yX10_readCondition, Cond.code yX10_readCondition cX10_readCondition 4 (some .boolean), Cond.methodLink RX10 76 yX10_fieldAtHand, Cond.instanceMethod yX10_fieldAtHand, Cond.selects RX10 yX10_fieldAtHand yX10_fieldAtHand, Cond.code yX10_fieldAtHand cX10_fieldAtHand 1 (some .int), Cond.methodLink RX10 70 yX10_isSign, Cond.instanceMethod yX10_isSign, Cond.selects RX10 yX10_isSign yX10_isSign]
def wsX10_readInto_r6 : List Cond := [Cond.code yX10_isSign cX10_isSign 2 (some .boolean), Cond.methodLink RX10 86 yX10_numberAtHand, Cond.instanceMethod yX10_numberAtHand, Cond.selects RX10 yX10_numberAtHand yX10_numberAtHand, Cond.code yX10_numberAtHand cX10_numberAtHand 3 (some .int), Cond.methodLink RX10 89 yX6_addCondition, Cond.instanceMethod yX6_addCondition, Cond.selects RX6 yX6_addCondition yX6_addCondition, Cond.code yX6_addCondition cX6_addCondition 5 none, Cond.fieldLink RX6 21 "SilkMill$Rules" "fields" "[I", Cond.fieldLink RX6 24 "SilkMill$Rules" "relations" "[I", Cond.fieldLink RX6 27 "SilkMill$Rules" "numbers" "[I", Cond.methodLink RX10 64 yX10_readAct, Cond.instanceMethod yX10_readAct, Cond.selects RX10 yX10_readAct yX10_readAct, Cond.code yX10_readAct cX10_readAct 4 (some .boolean), Cond.methodLink RX10 93 yX6_closeRule, Cond.instanceMethod yX6_closeRule, Cond.selects RX6 yX6_closeRule yX6_closeRule, Cond.code yX6_closeRule cX6_closeRule 3 none, Cond.fieldLink RX6 9 "SilkMill$Rules" "acts" "[I", Cond.fieldLink RX6 15 "SilkMill$Rules" "amounts" "[I"]
def wsX10_readInto : List Cond := .code yX10_readInto cX10_readInto 3 (some .boolean) :: ((wsX10_readInto_r1 ++ (wsX10_readInto_r2 ++ (wsX10_readInto_r3 ++ (wsX10_readInto_r4 ++ (wsX10_readInto_r5 ++ wsX10_readInto_r6))))) ++ wsX60 ++ wsX100)
def wsX11_init_r1 : List Cond := [Cond.methodLink RX11 3 objectInit, Cond.instanceMethod objectInit, Cond.code objectInit ⟨#[0xb1]⟩ 1 none, Cond.classLink RX11 9 RX0, Cond.fieldLink RX11 11 "SilkMill" "cocoons" "[LSilkMill$Cocoon;", Cond.arrayClass .int, Cond.fieldLink RX11 15 "SilkMill" "lotSizes" "[I", Cond.classLink RX11 19 RX4, Cond.fieldLink RX11 21 "SilkMill" "pots" "[LSilkMill$Pot;", Cond.classLink RX11 25 RX10, Cond.instantiable RX10 7, Cond.initialized RX10, Cond.fieldLink RX11 28 "SilkMill" "tape" "LSilkMill$Tape;", Cond.classLink RX11 32 RX6, Cond.instantiable RX6 7, Cond.initialized RX6, Cond.fieldLink RX11 35 "SilkMill" "spareRules" "LSilkMill$Rules;", Cond.classLink RX11 39 RX8, Cond.instantiable RX8 13, Cond.initialized RX8, Cond.fieldLink RX11 42 "SilkMill" "store" "LSilkMill$Store;", Cond.classLink RX11 46 RX1, Cond.instantiable RX1 4, Cond.initialized RX1]
def wsX11_init_r2 : List Cond := [Cond.fieldLink RX11 49 "SilkMill" "latestDraw" "LSilkMill$Draw;", Cond.classLink RX11 53 RX3, Cond.fieldLink RX11 55 "SilkMill" "shelf" "[LSilkMill$Place;", Cond.fieldLink RX11 59 "SilkMill" "idle" "[I", Cond.instantiable RX3 5, Cond.initialized RX3, Cond.instanceMethod yX10_init, Cond.code yX10_init cX10_init 1 none, Cond.methodLink RX10 3 objectInit, Cond.fieldLink RX10 9 "SilkMill$Tape" "faultPlace" "I", Cond.arrayClass .byte, Cond.fieldLink RX10 15 "SilkMill$Tape" "bytes" "[B", Cond.instanceMethod yX6_init, Cond.code yX6_init cX6_init 1 none, Cond.methodLink RX6 3 objectInit, Cond.fieldLink RX6 9 "SilkMill$Rules" "acts" "[I", Cond.fieldLink RX6 15 "SilkMill$Rules" "amounts" "[I", Cond.fieldLink RX6 18 "SilkMill$Rules" "conditions" "[I", Cond.fieldLink RX6 21 "SilkMill$Rules" "fields" "[I", Cond.fieldLink RX6 24 "SilkMill$Rules" "relations" "[I", Cond.fieldLink RX6 27 "SilkMill$Rules" "numbers" "[I", Cond.instanceMethod yX8_init, Cond.code yX8_init cX8_init 1 none, Cond.methodLink RX8 3 objectInit]
def wsX11_init_r3 : List Cond := [Cond.fieldLink RX8 9 "SilkMill$Store" "prices" "[I", Cond.classLink RX8 15 RX7, Cond.fieldLink RX8 17 "SilkMill$Store" "skeins" "[LSilkMill$Skein;", Cond.fieldLink RX8 21 "SilkMill$Store" "faultSkeins" "[I", Cond.fieldLink RX8 24 "SilkMill$Store" "faultDays" "[I", Cond.fieldLink RX8 27 "SilkMill$Store" "faultAmounts" "[I", Cond.classLink RX8 30 RX2, Cond.instantiable RX2 8, Cond.initialized RX2, Cond.fieldLink RX8 33 "SilkMill$Store" "mixer" "LSilkMill$Mixer;", Cond.instanceMethod yX2_init, Cond.code yX2_init cX2_init 1 none, Cond.methodLink RX2 3 objectInit, Cond.fieldLink RX2 9 "SilkMill$Mixer" "numbers" "[I", Cond.fieldLink RX2 15 "SilkMill$Mixer" "weights" "[I", Cond.fieldLink RX2 18 "SilkMill$Mixer" "prices" "[I", Cond.instanceMethod yX1_init, Cond.code yX1_init cX1_init 1 none, Cond.methodLink RX1 3 objectInit, Cond.fieldLink RX1 9 "SilkMill$Draw" "metres" "[I", Cond.instanceMethod yX3_init, Cond.code yX3_init cX3_init 1 none, Cond.methodLink RX3 3 objectInit, Cond.fieldLink RX3 9 "SilkMill$Place" "kind" "I"]
def wsX11_init_r4 : List Cond := [Cond.fieldLink RX3 15 "SilkMill$Place" "word" "[I"]
def wsX11_init : List Cond := .code yX11_init cX11_init 2 none :: ((wsX11_init_r1 ++ (wsX11_init_r2 ++ (wsX11_init_r3 ++ wsX11_init_r4))) ++ wsX110 ++ wsX100 ++ wsX60 ++ wsX80 ++ wsX10 ++ wsX30 ++ wsX20)
def wsX11_lot_r1 : List Cond := [Cond.fieldLink RX11 63 "SilkMill" "lots" "I", Cond.fieldLink RX11 11 "SilkMill" "cocoons" "[LSilkMill$Cocoon;", Cond.classLink RX11 9 RX0, Cond.instantiable RX0 10, Cond.initialized RX0, Cond.fieldLink RX11 15 "SilkMill" "lotSizes" "[I", Cond.methodLink RX11 67 yX11_isWithin, Cond.static yX11_isWithin, Cond.initialized RX11, Cond.code yX11_isWithin cX11_isWithin 3 (some .boolean), Cond.methodLink RX11 71 yX0_init, Cond.instanceMethod yX0_init, Cond.code yX0_init cX0_init 8 none, Cond.methodLink RX0 3 objectInit, Cond.instanceMethod objectInit, Cond.code objectInit ⟨#[0xb1]⟩ 1 none, Cond.fieldLink RX0 9 "SilkMill$Cocoon" "stand" "I", Cond.fieldLink RX0 15 "SilkMill$Cocoon" "potNumber" "I", Cond.fieldLink RX0 18 "SilkMill$Cocoon" "lotNumber" "I", Cond.fieldLink RX0 21 "SilkMill$Cocoon" "index" "I", Cond.fieldLink RX0 24 "SilkMill$Cocoon" "seed" "I", Cond.fieldLink RX0 27 "SilkMill$Cocoon" "frail" "I", Cond.methodLink RX0 34 Lib.Math.max.name, Cond.static Lib.Math.max.name]
def wsX11_lot_r2 : List Cond := [Cond.initialized "java/lang/Math", Cond.code Lib.Math.max.name Lib.Math.max.code 2 (some .int), Cond.fieldLink RX0 40 "SilkMill$Cocoon" "length" "I", Cond.fieldLink RX0 43 "SilkMill$Cocoon" "base" "I", Cond.static yX11_next, Cond.code yX11_next cX11_next 1 (some .int), Cond.constant RX11 380 (1103515245)]
def wsX11_lot : List Cond := .code yX11_lot cX11_lot 7 (some .int) :: ((wsX11_lot_r1 ++ wsX11_lot_r2) ++ wsX110 ++ wsX00)
def wsX11_cocoonAt : List Cond := .code yX11_cocoonAt cX11_cocoonAt 3 (some (.object "SilkMill$Cocoon")) :: ([.fieldLink RX11 63 "SilkMill" "lots" "I", .fieldLink RX11 15 "SilkMill" "lotSizes" "[I", .fieldLink RX11 11 "SilkMill" "cocoons" "[LSilkMill$Cocoon;"] ++ wsX110)
def wsX11_cocoon_r1 : List Cond := [Cond.fieldLink RX11 78 "SilkMill$Cocoon" "length" "I", Cond.fieldLink RX11 81 "SilkMill$Cocoon" "stand" "I", Cond.fieldLink RX11 84 "SilkMill$Cocoon" "drawnTo" "I", Cond.fieldLink RX11 99 "SilkMill$Cocoon" "potNumber" "I", Cond.methodLink RX11 74 yX11_cocoonAt, Cond.instanceMethod yX11_cocoonAt, Cond.selects RX11 yX11_cocoonAt yX11_cocoonAt, Cond.initialized RX11, Cond.code yX11_cocoonAt cX11_cocoonAt 3 (some (.object "SilkMill$Cocoon")), Cond.fieldLink RX11 63 "SilkMill" "lots" "I", Cond.fieldLink RX11 15 "SilkMill" "lotSizes" "[I", Cond.fieldLink RX11 11 "SilkMill" "cocoons" "[LSilkMill$Cocoon;", Cond.methodLink RX11 87 yX0_finenessAt, Cond.instanceMethod yX0_finenessAt, Cond.selects RX0 yX0_finenessAt yX0_finenessAt, Cond.initialized RX0, Cond.code yX0_finenessAt cX0_finenessAt 2 (some .int), Cond.fieldLink RX0 40 "SilkMill$Cocoon" "length" "I", Cond.fieldLink RX0 43 "SilkMill$Cocoon" "base" "I", Cond.methodLink RX11 91 yX0_silkBetween, Cond.instanceMethod yX0_silkBetween, Cond.selects RX0 yX0_silkBetween yX0_silkBetween, Cond.code yX0_silkBetween cX0_silkBetween 5 (some .int), Cond.methodLink RX0 50 yX0_finenessAt]
def wsX11_cocoon_r2 : List Cond := [Cond.methodLink RX11 95 yX0_isInPot, Cond.instanceMethod yX0_isInPot, Cond.selects RX0 yX0_isInPot yX0_isInPot, Cond.code yX0_isInPot cX0_isInPot 1 (some .boolean), Cond.fieldLink RX0 9 "SilkMill$Cocoon" "stand" "I"]
def wsX11_cocoon : List Cond := .code yX11_cocoon cX11_cocoon 5 (some .int) :: ((wsX11_cocoon_r1 ++ wsX11_cocoon_r2) ++ wsX00 ++ wsX110)
def wsX11_fineness : List Cond := .code yX11_fineness cX11_fineness 5 (some .int) :: ([.classLink RX11 102 "java/lang/IndexOutOfBoundsException", .initialized "java/lang/IndexOutOfBoundsException", .fieldLink RX11 78 "SilkMill$Cocoon" "length" "I", .methodLink RX11 74 yX11_cocoonAt, .instanceMethod yX11_cocoonAt, .selects RX11 yX11_cocoonAt yX11_cocoonAt, .initialized RX11, .code yX11_cocoonAt cX11_cocoonAt 3 (some (.object "SilkMill$Cocoon")), .fieldLink RX11 63 "SilkMill" "lots" "I", .fieldLink RX11 15 "SilkMill" "lotSizes" "[I", .fieldLink RX11 11 "SilkMill" "cocoons" "[LSilkMill$Cocoon;", .methodLink RX11 87 yX0_finenessAt, .instanceMethod yX0_finenessAt, .selects RX0 yX0_finenessAt yX0_finenessAt, .initialized RX0, .code yX0_finenessAt cX0_finenessAt 2 (some .int), .fieldLink RX0 40 "SilkMill$Cocoon" "length" "I", .fieldLink RX0 43 "SilkMill$Cocoon" "base" "I"] ++ wsX00 ++ wsX110 ++ (vx_atS RX11 106 "java/lang/IndexOutOfBoundsException" ["java/lang/RuntimeException", "java/lang/Exception"]).filter goodWord)
def wsX11_listIdle : List Cond := .code yX11_listIdle cX11_listIdle 5 (some .int) :: ([.fieldLink RX11 81 "SilkMill$Cocoon" "stand" "I", .fieldLink RX11 59 "SilkMill" "idle" "[I", .methodLink RX11 74 yX11_cocoonAt, .instanceMethod yX11_cocoonAt, .selects RX11 yX11_cocoonAt yX11_cocoonAt, .initialized RX11, .code yX11_cocoonAt cX11_cocoonAt 3 (some (.object "SilkMill$Cocoon")), .fieldLink RX11 63 "SilkMill" "lots" "I", .fieldLink RX11 15 "SilkMill" "lotSizes" "[I", .fieldLink RX11 11 "SilkMill" "cocoons" "[LSilkMill$Cocoon;"] ++ wsX00 ++ wsX110)
def wsX11_test_r1 : List Cond := [Cond.fieldLink RX11 63 "SilkMill" "lots" "I", Cond.fieldLink RX11 59 "SilkMill" "idle" "[I", Cond.methodLink RX11 118 arraycopyName, Cond.native arraycopyName, Cond.static arraycopyName, Cond.initialized "java/lang/System", Cond.methodLink RX11 109 yX11_listIdle, Cond.instanceMethod yX11_listIdle, Cond.selects RX11 yX11_listIdle yX11_listIdle, Cond.initialized RX11, Cond.code yX11_listIdle cX11_listIdle 5 (some .int), Cond.fieldLink RX11 81 "SilkMill$Cocoon" "stand" "I", Cond.methodLink RX11 74 yX11_cocoonAt, Cond.instanceMethod yX11_cocoonAt, Cond.selects RX11 yX11_cocoonAt yX11_cocoonAt, Cond.code yX11_cocoonAt cX11_cocoonAt 3 (some (.object "SilkMill$Cocoon")), Cond.fieldLink RX11 15 "SilkMill" "lotSizes" "[I", Cond.fieldLink RX11 11 "SilkMill" "cocoons" "[LSilkMill$Cocoon;", Cond.methodLink RX11 112 yX11_next, Cond.static yX11_next, Cond.code yX11_next cX11_next 1 (some .int), Cond.constant RX11 380 (1103515245), Cond.methodLink RX11 115 yX0_breaksAnywhere, Cond.instanceMethod yX0_breaksAnywhere]
def wsX11_test_r2 : List Cond := [Cond.selects RX0 yX0_breaksAnywhere yX0_breaksAnywhere, Cond.initialized RX0, Cond.code yX0_breaksAnywhere cX0_breaksAnywhere 2 (some .boolean), Cond.fieldLink RX0 40 "SilkMill$Cocoon" "length" "I", Cond.methodLink RX0 53 yX0_breaksAt, Cond.instanceMethod yX0_breaksAt, Cond.selects RX0 yX0_breaksAt yX0_breaksAt, Cond.code yX0_breaksAt cX0_breaksAt 2 (some .boolean), Cond.fieldLink RX0 24 "SilkMill$Cocoon" "seed" "I", Cond.fieldLink RX0 21 "SilkMill$Cocoon" "index" "I", Cond.fieldLink RX0 27 "SilkMill$Cocoon" "frail" "I"]
def wsX11_test : List Cond := .code yX11_test cX11_test 10 (some .int) :: ((wsX11_test_r1 ++ wsX11_test_r2) ++ wsX110 ++ wsX00)
def wsX11_isTarget : List Cond := .code yX11_isTarget cX11_isTarget 1 (some .boolean) :: ([.methodLink RX11 67 yX11_isWithin, .static yX11_isWithin, .initialized RX11, .code yX11_isWithin cX11_isWithin 3 (some .boolean)])
def wsX11_pot_r1 : List Cond := [Cond.fieldLink RX11 124 "SilkMill" "potsMade" "I", Cond.fieldLink RX11 21 "SilkMill" "pots" "[LSilkMill$Pot;", Cond.classLink RX11 19 RX4, Cond.instantiable RX4 12, Cond.initialized RX4, Cond.methodLink RX11 127 yX11_isTarget, Cond.static yX11_isTarget, Cond.initialized RX11, Cond.code yX11_isTarget cX11_isTarget 1 (some .boolean), Cond.methodLink RX11 67 yX11_isWithin, Cond.static yX11_isWithin, Cond.code yX11_isWithin cX11_isWithin 3 (some .boolean), Cond.methodLink RX11 131 yX4_init, Cond.instanceMethod yX4_init, Cond.code yX4_init cX4_init 4 none, Cond.methodLink RX4 3 objectInit, Cond.instanceMethod objectInit, Cond.code objectInit ⟨#[0xb1]⟩ 1 none, Cond.classLink RX4 9 RX5, Cond.instantiable RX5 3, Cond.initialized RX5, Cond.fieldLink RX4 14 "SilkMill$Pot" "basket" "LSilkMill$Row;", Cond.fieldLink RX4 20 "SilkMill$Pot" "ends" "LSilkMill$Row;", Cond.fieldLink RX4 23 "SilkMill$Pot" "lost" "LSilkMill$Row;"]
def wsX11_pot_r2 : List Cond := [Cond.classLink RX4 26 RX9, Cond.instantiable RX9 9, Cond.initialized RX9, Cond.fieldLink RX4 29 "SilkMill$Pot" "strand" "LSilkMill$Strand;", Cond.classLink RX4 33 RX6, Cond.instantiable RX6 7, Cond.initialized RX6, Cond.fieldLink RX4 36 "SilkMill$Pot" "rules" "LSilkMill$Rules;", Cond.fieldLink RX4 40 "SilkMill$Pot" "potNumber" "I", Cond.fieldLink RX4 44 "SilkMill$Pot" "aim" "I", Cond.fieldLink RX4 47 "SilkMill$Pot" "find" "I", Cond.methodLink RX4 11 yX5_init, Cond.instanceMethod yX5_init, Cond.code yX5_init cX5_init 2 none, Cond.methodLink RX5 3 objectInit, Cond.methodLink RX5 9 Lib.Math.max.name, Cond.static Lib.Math.max.name, Cond.initialized "java/lang/Math", Cond.code Lib.Math.max.name Lib.Math.max.code 2 (some .int), Cond.classLink RX5 15 RX0, Cond.fieldLink RX5 17 "SilkMill$Row" "cells" "[LSilkMill$Cocoon;", Cond.methodLink RX4 28 yX9_init, Cond.instanceMethod yX9_init, Cond.code yX9_init cX9_init 1 none]
def wsX11_pot_r3 : List Cond := [Cond.methodLink RX9 3 objectInit, Cond.arrayClass .int, Cond.fieldLink RX9 9 "SilkMill$Strand" "fineness" "[I", Cond.fieldLink RX9 15 "SilkMill$Strand" "endCounts" "[I", Cond.fieldLink RX9 18 "SilkMill$Strand" "codes" "[I", Cond.fieldLink RX9 21 "SilkMill$Strand" "firsts" "[I", Cond.fieldLink RX9 24 "SilkMill$Strand" "lengths" "[I", Cond.fieldLink RX9 27 "SilkMill$Strand" "places" "[I", Cond.instanceMethod yX6_init, Cond.code yX6_init cX6_init 1 none, Cond.methodLink RX6 3 objectInit, Cond.fieldLink RX6 9 "SilkMill$Rules" "acts" "[I", Cond.fieldLink RX6 15 "SilkMill$Rules" "amounts" "[I", Cond.fieldLink RX6 18 "SilkMill$Rules" "conditions" "[I", Cond.fieldLink RX6 21 "SilkMill$Rules" "fields" "[I", Cond.fieldLink RX6 24 "SilkMill$Rules" "relations" "[I", Cond.fieldLink RX6 27 "SilkMill$Rules" "numbers" "[I"]
def wsX11_pot : List Cond := .code yX11_pot cX11_pot 3 (some .int) :: ((wsX11_pot_r1 ++ (wsX11_pot_r2 ++ wsX11_pot_r3)) ++ wsX110 ++ wsX40 ++ wsX50 ++ wsX90 ++ wsX60)
def wsX11_potAt : List Cond := .code yX11_potAt cX11_potAt 2 (some (.object "SilkMill$Pot")) :: ([.fieldLink RX11 124 "SilkMill" "potsMade" "I", .fieldLink RX11 21 "SilkMill" "pots" "[LSilkMill$Pot;"] ++ wsX110)
def wsX11_target : List Cond := .code yX11_target cX11_target 4 (some .boolean) :: ([.fieldLink RX11 138 "SilkMill$Pot" "aim" "I", .methodLink RX11 134 yX11_potAt, .instanceMethod yX11_potAt, .selects RX11 yX11_potAt yX11_potAt, .initialized RX11, .code yX11_potAt cX11_potAt 2 (some (.object "SilkMill$Pot")), .fieldLink RX11 124 "SilkMill" "potsMade" "I", .fieldLink RX11 21 "SilkMill" "pots" "[LSilkMill$Pot;", .methodLink RX11 127 yX11_isTarget, .static yX11_isTarget, .code yX11_isTarget cX11_isTarget 1 (some .boolean), .methodLink RX11 67 yX11_isWithin, .static yX11_isWithin, .code yX11_isWithin cX11_isWithin 3 (some .boolean)] ++ wsX40 ++ wsX110)
def wsX11_fill_r1 : List Cond := [Cond.fieldLink RX11 81 "SilkMill$Cocoon" "stand" "I", Cond.methodLink RX11 134 yX11_potAt, Cond.instanceMethod yX11_potAt, Cond.selects RX11 yX11_potAt yX11_potAt, Cond.initialized RX11, Cond.code yX11_potAt cX11_potAt 2 (some (.object "SilkMill$Pot")), Cond.fieldLink RX11 124 "SilkMill" "potsMade" "I", Cond.fieldLink RX11 21 "SilkMill" "pots" "[LSilkMill$Pot;", Cond.methodLink RX11 67 yX11_isWithin, Cond.static yX11_isWithin, Cond.code yX11_isWithin cX11_isWithin 3 (some .boolean), Cond.methodLink RX11 74 yX11_cocoonAt, Cond.instanceMethod yX11_cocoonAt, Cond.selects RX11 yX11_cocoonAt yX11_cocoonAt, Cond.code yX11_cocoonAt cX11_cocoonAt 3 (some (.object "SilkMill$Cocoon")), Cond.fieldLink RX11 63 "SilkMill" "lots" "I", Cond.fieldLink RX11 15 "SilkMill" "lotSizes" "[I", Cond.fieldLink RX11 11 "SilkMill" "cocoons" "[LSilkMill$Cocoon;", Cond.methodLink RX11 141 yX4_receive, Cond.instanceMethod yX4_receive, Cond.selects RX4 yX4_receive yX4_receive, Cond.initialized RX4, Cond.code yX4_receive cX4_receive 2 none, Cond.fieldLink RX4 40 "SilkMill$Pot" "potNumber" "I"]
def wsX11_fill_r2 : List Cond := [Cond.fieldLink RX4 50 "SilkMill$Cocoon" "potNumber" "I", Cond.fieldLink RX4 53 "SilkMill$Cocoon" "stand" "I", Cond.fieldLink RX4 14 "SilkMill$Pot" "basket" "LSilkMill$Row;", Cond.methodLink RX4 56 yX5_addLast, Cond.instanceMethod yX5_addLast, Cond.selects RX5 yX5_addLast yX5_addLast, Cond.initialized RX5, Cond.code yX5_addLast cX5_addLast 2 none, Cond.fieldLink RX5 23 "SilkMill$Row" "size" "I", Cond.fieldLink RX5 17 "SilkMill$Row" "cells" "[LSilkMill$Cocoon;", Cond.methodLink RX5 27 yX5_cellOf, Cond.instanceMethod yX5_cellOf, Cond.selects RX5 yX5_cellOf yX5_cellOf, Cond.code yX5_cellOf cX5_cellOf 3 (some .int), Cond.fieldLink RX5 31 "SilkMill$Row" "head" "I"]
def wsX11_fill : List Cond := .code yX11_fill cX11_fill 8 (some .boolean) :: ((wsX11_fill_r1 ++ wsX11_fill_r2) ++ wsX00 ++ wsX110 ++ wsX40 ++ wsX50)
def wsX11_feed : List Cond := .code yX11_feed cX11_feed 6 (some .int) :: ([.fieldLink RX11 28 "SilkMill" "tape" "LSilkMill$Tape;", .fieldLink RX11 145 "SilkMill$Tape" "size" "I", .methodLink RX11 148 yX10_append, .instanceMethod yX10_append, .selects RX10 yX10_append yX10_append, .initialized RX10, .code yX10_append cX10_append 2 none, .fieldLink RX10 19 "SilkMill$Tape" "size" "I", .fieldLink RX10 15 "SilkMill$Tape" "bytes" "[B"] ++ wsX110 ++ wsX100)
def wsX11_end : List Cond := .code yX11_end cX11_end 2 (some .int) :: ([.fieldLink RX11 28 "SilkMill" "tape" "LSilkMill$Tape;", .fieldLink RX11 145 "SilkMill$Tape" "size" "I"] ++ wsX110 ++ wsX100)
def wsX11_program_r1 : List Cond := [Cond.fieldLink RX11 28 "SilkMill" "tape" "LSilkMill$Tape;", Cond.fieldLink RX11 35 "SilkMill" "spareRules" "LSilkMill$Rules;", Cond.fieldLink RX11 145 "SilkMill$Tape" "size" "I", Cond.fieldLink RX11 159 "SilkMill$Tape" "faultKind" "I", Cond.fieldLink RX11 162 "SilkMill$Pot" "rules" "LSilkMill$Rules;", Cond.fieldLink RX11 165 "SilkMill$Rules" "size" "I", Cond.methodLink RX11 134 yX11_potAt, Cond.instanceMethod yX11_potAt, Cond.selects RX11 yX11_potAt yX11_potAt, Cond.initialized RX11, Cond.code yX11_potAt cX11_potAt 2 (some (.object "SilkMill$Pot")), Cond.fieldLink RX11 124 "SilkMill" "potsMade" "I", Cond.fieldLink RX11 21 "SilkMill" "pots" "[LSilkMill$Pot;", Cond.methodLink RX11 152 yX10_forgetFault, Cond.instanceMethod yX10_forgetFault, Cond.selects RX10 yX10_forgetFault yX10_forgetFault, Cond.initialized RX10, Cond.code yX10_forgetFault cX10_forgetFault 1 none, Cond.fieldLink RX10 22 "SilkMill$Tape" "faultKind" "I", Cond.fieldLink RX10 9 "SilkMill$Tape" "faultPlace" "I", Cond.methodLink RX11 155 yX10_readInto, Cond.instanceMethod yX10_readInto, Cond.selects RX10 yX10_readInto yX10_readInto, Cond.code yX10_readInto cX10_readInto 3 (some .boolean)]
def wsX11_program_r2 : List Cond := [Cond.fieldLink RX10 28 "SilkMill$Rules" "size" "I", Cond.fieldLink RX10 31 "SilkMill$Tape" "behind" "I", Cond.fieldLink RX10 37 "SilkMill$Tape" "token" "I", Cond.methodLink RX10 25 yX10_forgetFault, Cond.methodLink RX10 34 yX10_advance, Cond.instanceMethod yX10_advance, Cond.selects RX10 yX10_advance yX10_advance, Cond.code yX10_advance cX10_advance 1 none, Cond.fieldLink RX10 79 "SilkMill$Tape" "start" "I", Cond.fieldLink RX10 19 "SilkMill$Tape" "size" "I", Cond.methodLink RX10 82 yX10_byteAt, Cond.instanceMethod yX10_byteAt, Cond.selects RX10 yX10_byteAt yX10_byteAt, Cond.code yX10_byteAt cX10_byteAt 2 (some .int), Cond.fieldLink RX10 15 "SilkMill$Tape" "bytes" "[B", Cond.methodLink RX10 132 yX10_isBlank, Cond.static yX10_isBlank, Cond.code yX10_isBlank cX10_isBlank 1 (some .boolean), Cond.methodLink RX10 135 yX10_isLetter, Cond.static yX10_isLetter, Cond.code yX10_isLetter cX10_isLetter 1 (some .boolean), Cond.methodLink RX10 138 yX10_isDigit, Cond.static yX10_isDigit, Cond.code yX10_isDigit cX10_isDigit 1 (some .boolean)]
def wsX11_program_r3 : List Cond := [Cond.methodLink RX10 141 yX10_isSignByte, Cond.static yX10_isSignByte, Cond.code yX10_isSignByte cX10_isSignByte 1 (some .boolean), Cond.methodLink RX10 40 yX10_readRule, Cond.instanceMethod yX10_readRule, Cond.selects RX10 yX10_readRule yX10_readRule, Cond.code yX10_readRule cX10_readRule 3 (some .boolean), Cond.methodLink RX10 46 yX10_isWord, Cond.instanceMethod yX10_isWord, Cond.selects RX10 yX10_isWord yX10_isWord, Cond.code yX10_isWord cX10_isWord 3 (some .boolean), Cond.methodLink RX10 123 yJ0_length_8abf5, Cond.instanceMethod yJ0_length_8abf5, Cond.selects RJ0 yJ0_length_8abf5 yJ0_length_8abf5, Cond.initialized RJ0, Cond.code yJ0_length_8abf5 cJ0_length_8abf5 1 (some .int), Cond.fieldLink RJ0 9 "java/lang/String" "value" "[B", Cond.methodLink RJ0 335 yJ0_coder_7d493, Cond.instanceMethod yJ0_coder_7d493, Cond.selects RJ0 yJ0_coder_7d493 yJ0_coder_7d493, Cond.code yJ0_coder_7d493 cJ0_coder_7d493 1 (some .byte), Cond.fieldLink RJ0 38 "java/lang/String" "COMPACT_STRINGS" "Z", Cond.fieldLink RJ0 15 "java/lang/String" "coder" "B", Cond.methodLink RX10 128 yJ0_charAt_5068e]
def wsX11_program_r4 : List Cond := [Cond.instanceMethod yJ0_charAt_5068e, Cond.selects RJ0 yJ0_charAt_5068e yJ0_charAt_5068e, Cond.code yJ0_charAt_5068e cJ0_charAt_5068e 2 (some .char), Cond.methodLink RJ0 492 yJ0_isLatin1_aae02, Cond.instanceMethod yJ0_isLatin1_aae02, Cond.selects RJ0 yJ0_isLatin1_aae02 yJ0_isLatin1_aae02, Cond.code yJ0_isLatin1_aae02 cJ0_isLatin1_aae02 1 (some .boolean), Cond.methodLink RJ0 495 yJ1_charAt_3b067, Cond.static yJ1_charAt_3b067, Cond.initialized RJ1, Cond.code yJ1_charAt_3b067 cJ1_charAt_3b067 2 (some .char), Cond.methodLink RJ1 9 yJ0_checkIndex_df160, Cond.static yJ0_checkIndex_df160, Cond.code yJ0_checkIndex_df160 cJ0_checkIndex_df160 2 none, Cond.fieldLink RJ0 1053 "jdk/internal/util/Preconditions" "SIOOBE_FORMATTER" "Ljava/util/function/BiFunction;", Cond.methodLink RJ0 1059 yJ3_checkIndex_8e157, Cond.static yJ3_checkIndex_8e157, Cond.initialized RJ3, Cond.code yJ3_checkIndex_8e157 cJ3_checkIndex_8e157 3 (some .int), Cond.methodLink RJ0 498 yJ2_charAt_3b067, Cond.static yJ2_charAt_3b067, Cond.initialized RJ2, Cond.code yJ2_charAt_3b067 cJ2_charAt_3b067 2 (some .char), Cond.methodLink RJ2 67 yJ2_checkIndex_2214a]
def wsX11_program_r5 : List Cond := [Cond.static yJ2_checkIndex_2214a, Cond.code yJ2_checkIndex_2214a cJ2_checkIndex_2214a 2 none, Cond.methodLink RJ2 48 yJ2_length_9d52b, Cond.static yJ2_length_9d52b, Cond.code yJ2_length_9d52b cJ2_length_9d52b 1 (some .int), Cond.methodLink RJ2 414 yJ0_checkIndex_df160, Cond.methodLink RJ2 71 yJ2_getChar_3b067, Cond.static yJ2_getChar_3b067, Cond.code yJ2_getChar_3b067 cJ2_getChar_3b067 2 (some .char), Cond.fieldLink RJ2 44 "java/lang/StringUTF16" "$assertionsDisabled" "Z", Cond.fieldLink RJ2 59 "java/lang/StringUTF16" "HI_BYTE_SHIFT" "I", Cond.fieldLink RJ2 63 "java/lang/StringUTF16" "LO_BYTE_SHIFT" "I", Cond.methodLink RX10 50 yX10_actAtHand, Cond.instanceMethod yX10_actAtHand, Cond.selects RX10 yX10_actAtHand yX10_actAtHand, Cond.code yX10_actAtHand cX10_actAtHand 1 (some .int), Cond.methodLink RX10 54 yX10_fail, Cond.instanceMethod yX10_fail, Cond.selects RX10 yX10_fail yX10_fail, Cond.code yX10_fail cX10_fail 2 (some .boolean), Cond.methodLink RX10 58 yX6_openRule, Cond.instanceMethod yX6_openRule, Cond.selects RX6 yX6_openRule yX6_openRule, Cond.initialized RX6]
def wsX11_program_r6 : List Cond := [Cond.code yX6_openRule cX6_openRule 1 none, Cond.fieldLink RX6 30 "SilkMill$Rules" "size" "I", Cond.fieldLink RX6 18 "SilkMill$Rules" "conditions" "[I", Cond.methodLink RX10 61 yX10_readConditions, Cond.instanceMethod yX10_readConditions, Cond.selects RX10 yX10_readConditions yX10_readConditions, Cond.code yX10_readConditions cX10_readConditions 3 (some .boolean), Cond.methodLink RX10 67 yX10_readCondition, Cond.instanceMethod yX10_readCondition, Cond.selects RX10 yX10_readCondition yX10_readCondition, Cond.code yX10_readCondition cX10_readCondition 4 (some .boolean), Cond.methodLink RX10 76 yX10_fieldAtHand, Cond.instanceMethod yX10_fieldAtHand, Cond.selects RX10 yX10_fieldAtHand yX10_fieldAtHand, Cond.code yX10_fieldAtHand cX10_fieldAtHand 1 (some .int), Cond.methodLink RX10 70 yX10_isSign, Cond.instanceMethod yX10_isSign, Cond.selects RX10 yX10_isSign yX10_isSign, Cond.code yX10_isSign cX10_isSign 2 (some .boolean), Cond.methodLink RX10 86 yX10_numberAtHand, Cond.instanceMethod yX10_numberAtHand, Cond.selects RX10 yX10_numberAtHand yX10_numberAtHand, Cond.code yX10_numberAtHand cX10_numberAtHand 3 (some .int), Cond.methodLink RX10 89 yX6_addCondition]
def wsX11_program_r7 : List Cond := [Cond.instanceMethod yX6_addCondition, Cond.selects RX6 yX6_addCondition yX6_addCondition, Cond.code yX6_addCondition cX6_addCondition 5 none, Cond.fieldLink RX6 21 "SilkMill$Rules" "fields" "[I", Cond.fieldLink RX6 24 "SilkMill$Rules" "relations" "[I", Cond.fieldLink RX6 27 "SilkMill$Rules" "numbers" "[I", Cond.methodLink RX10 64 yX10_readAct, Cond.instanceMethod yX10_readAct, Cond.selects RX10 yX10_readAct yX10_readAct, Cond.code yX10_readAct cX10_readAct 4 (some .boolean), Cond.methodLink RX10 93 yX6_closeRule, Cond.instanceMethod yX6_closeRule, Cond.selects RX6 yX6_closeRule yX6_closeRule, Cond.code yX6_closeRule cX6_closeRule 3 none, Cond.fieldLink RX6 9 "SilkMill$Rules" "acts" "[I", Cond.fieldLink RX6 15 "SilkMill$Rules" "amounts" "[I"]
def wsX11_program : List Cond := .code yX11_program cX11_program 5 (some .int) :: ((wsX11_program_r1 ++ (wsX11_program_r2 ++ (wsX11_program_r3 ++ (wsX11_program_r4 ++ (wsX11_program_r5 ++ (wsX11_program_r6 ++ wsX11_program_r7)))))) ++ wsX110 ++ wsX100 ++ wsX40 ++ wsX60)
def wsX11_place : List Cond := .code yX11_place cX11_place 1 (some .int) :: ([.fieldLink RX11 28 "SilkMill" "tape" "LSilkMill$Tape;", .fieldLink RX11 166 "SilkMill$Tape" "faultPlace" "I"] ++ wsX110 ++ wsX100)
def wsX11_run_r1 : List Cond := [Cond.fieldLink RX11 42 "SilkMill" "store" "LSilkMill$Store;", Cond.methodLink RX11 134 yX11_potAt, Cond.instanceMethod yX11_potAt, Cond.selects RX11 yX11_potAt yX11_potAt, Cond.initialized RX11, Cond.code yX11_potAt cX11_potAt 2 (some (.object "SilkMill$Pot")), Cond.fieldLink RX11 124 "SilkMill" "potsMade" "I", Cond.fieldLink RX11 21 "SilkMill" "pots" "[LSilkMill$Pot;", Cond.methodLink RX11 67 yX11_isWithin, Cond.static yX11_isWithin, Cond.code yX11_isWithin cX11_isWithin 3 (some .boolean), Cond.methodLink RX11 169 yX4_tick, Cond.instanceMethod yX4_tick, Cond.selects RX4 yX4_tick yX4_tick, Cond.initialized RX4, Cond.code yX4_tick cX4_tick 2 (some .boolean), Cond.fieldLink RX4 60 "SilkMill$Pot" "ticksEver" "I", Cond.fieldLink RX4 66 "SilkMill$Pot" "stop" "I", Cond.fieldLink RX4 20 "SilkMill$Pot" "ends" "LSilkMill$Row;", Cond.fieldLink RX4 73 "SilkMill$Row" "size" "I", Cond.methodLink RX4 63 yX4_searchLost, Cond.instanceMethod yX4_searchLost, Cond.selects RX4 yX4_searchLost yX4_searchLost, Cond.code yX4_searchLost cX4_searchLost 1 none]
def wsX11_run_r2 : List Cond := [Cond.fieldLink RX4 23 "SilkMill$Pot" "lost" "LSilkMill$Row;", Cond.fieldLink RX4 91 "SilkMill$Pot" "search" "I", Cond.fieldLink RX4 47 "SilkMill$Pot" "find" "I", Cond.methodLink RX4 94 yX4_fetchLost, Cond.instanceMethod yX4_fetchLost, Cond.selects RX4 yX4_fetchLost yX4_fetchLost, Cond.code yX4_fetchLost cX4_fetchLost 2 none, Cond.fieldLink RX4 53 "SilkMill$Cocoon" "stand" "I", Cond.fieldLink RX4 14 "SilkMill$Pot" "basket" "LSilkMill$Row;", Cond.methodLink RX4 97 yX5_removeFirst, Cond.instanceMethod yX5_removeFirst, Cond.selects RX5 yX5_removeFirst yX5_removeFirst, Cond.initialized RX5, Cond.code yX5_removeFirst cX5_removeFirst 2 (some (.object "SilkMill$Cocoon")), Cond.fieldLink RX5 23 "SilkMill$Row" "size" "I", Cond.fieldLink RX5 17 "SilkMill$Row" "cells" "[LSilkMill$Cocoon;", Cond.fieldLink RX5 31 "SilkMill$Row" "head" "I", Cond.methodLink RX5 27 yX5_cellOf, Cond.instanceMethod yX5_cellOf, Cond.selects RX5 yX5_cellOf yX5_cellOf, Cond.code yX5_cellOf cX5_cellOf 3 (some .int), Cond.methodLink RX4 56 yX5_addLast, Cond.instanceMethod yX5_addLast, Cond.selects RX5 yX5_addLast yX5_addLast]
def wsX11_run_r3 : List Cond := [Cond.code yX5_addLast cX5_addLast 2 none, Cond.methodLink RX4 69 yX4_applyRules, Cond.instanceMethod yX4_applyRules, Cond.selects RX4 yX4_applyRules yX4_applyRules, Cond.code yX4_applyRules cX4_applyRules 3 none, Cond.fieldLink RX4 36 "SilkMill$Pot" "rules" "LSilkMill$Rules;", Cond.fieldLink RX4 101 "SilkMill$Rules" "size" "I", Cond.fieldLink RX4 102 "SilkMill$Store" "today" "I", Cond.fieldLink RX4 109 "SilkMill$Rules" "acts" "[I", Cond.fieldLink RX4 113 "SilkMill$Rules" "amounts" "[I", Cond.methodLink RX4 105 yX4_allHold, Cond.instanceMethod yX4_allHold, Cond.selects RX4 yX4_allHold yX4_allHold, Cond.code yX4_allHold cX4_allHold 6 (some .boolean), Cond.fieldLink RX4 120 "SilkMill$Rules" "conditions" "[I", Cond.fieldLink RX4 123 "SilkMill$Rules" "fields" "[I", Cond.fieldLink RX4 130 "SilkMill$Rules" "relations" "[I", Cond.fieldLink RX4 133 "SilkMill$Rules" "numbers" "[I", Cond.methodLink RX4 126 yX4_valueOf, Cond.instanceMethod yX4_valueOf, Cond.selects RX4 yX4_valueOf yX4_valueOf, Cond.code yX4_valueOf cX4_valueOf 3 (some .int), Cond.fieldLink RX4 29 "SilkMill$Pot" "strand" "LSilkMill$Strand;", Cond.fieldLink RX4 79 "SilkMill$Strand" "metres" "I"]
def wsX11_run_r4 : List Cond := [Cond.methodLink RX4 140 yX5_sumOfFineness, Cond.instanceMethod yX5_sumOfFineness, Cond.selects RX5 yX5_sumOfFineness yX5_sumOfFineness, Cond.code yX5_sumOfFineness cX5_sumOfFineness 4 (some .int), Cond.fieldLink RX5 38 "SilkMill$Cocoon" "drawnTo" "I", Cond.methodLink RX5 34 yX5_at, Cond.instanceMethod yX5_at, Cond.selects RX5 yX5_at yX5_at, Cond.code yX5_at cX5_at 2 (some (.object "SilkMill$Cocoon")), Cond.methodLink RX5 41 yX0_finenessAt, Cond.instanceMethod yX0_finenessAt, Cond.selects RX0 yX0_finenessAt yX0_finenessAt, Cond.initialized RX0, Cond.code yX0_finenessAt cX0_finenessAt 2 (some .int), Cond.fieldLink RX0 40 "SilkMill$Cocoon" "length" "I", Cond.fieldLink RX0 43 "SilkMill$Cocoon" "base" "I", Cond.methodLink RX4 144 yX5_thinnest, Cond.instanceMethod yX5_thinnest, Cond.selects RX5 yX5_thinnest yX5_thinnest, Cond.code yX5_thinnest cX5_thinnest 5 (some .int), Cond.constant RX5 46 (2147483647), Cond.methodLink RX4 147 yX5_at, Cond.methodLink RX4 151 yX4_finenessOf, Cond.static yX4_finenessOf]
def wsX11_run_r5 : List Cond := [Cond.code yX4_finenessOf cX4_finenessOf 1 (some .int), Cond.fieldLink RX4 180 "SilkMill$Cocoon" "drawnTo" "I", Cond.methodLink RX4 189 yX0_finenessAt, Cond.methodLink RX4 136 yX4_isRelated, Cond.static yX4_isRelated, Cond.code yX4_isRelated cX4_isRelated 3 (some .boolean), Cond.methodLink RX4 116 yX4_act, Cond.instanceMethod yX4_act, Cond.selects RX4 yX4_act yX4_act, Cond.code yX4_act cX4_act 4 none, Cond.methodLink RX4 155 yX4_castFirst, Cond.instanceMethod yX4_castFirst, Cond.selects RX4 yX4_castFirst yX4_castFirst, Cond.code yX4_castFirst cX4_castFirst 2 none, Cond.methodLink RX4 158 yX4_dropThinnest, Cond.instanceMethod yX4_dropThinnest, Cond.selects RX4 yX4_dropThinnest yX4_dropThinnest, Cond.code yX4_dropThinnest cX4_dropThinnest 2 none, Cond.methodLink RX4 171 yX5_removeAt, Cond.instanceMethod yX5_removeAt, Cond.selects RX5 yX5_removeAt yX5_removeAt, Cond.code yX5_removeAt cX5_removeAt 4 (some (.object "SilkMill$Cocoon")), Cond.methodLink RX4 174 yX5_addFirst, Cond.instanceMethod yX5_addFirst]
def wsX11_run_r6 : List Cond := [Cond.selects RX5 yX5_addFirst yX5_addFirst, Cond.code yX5_addFirst cX5_addFirst 2 none, Cond.methodLink RX4 161 yX4_findFirst, Cond.instanceMethod yX4_findFirst, Cond.selects RX4 yX4_findFirst yX4_findFirst, Cond.code yX4_findFirst cX4_findFirst 1 none, Cond.methodLink RX4 164 yX4_throwLast, Cond.instanceMethod yX4_throwLast, Cond.selects RX4 yX4_throwLast yX4_throwLast, Cond.code yX4_throwLast cX4_throwLast 3 none, Cond.fieldLink RX4 177 "SilkMill$Store" "silkThrown" "I", Cond.fieldLink RX4 183 "SilkMill$Cocoon" "length" "I", Cond.methodLink RX4 186 yX0_silkBetween, Cond.instanceMethod yX0_silkBetween, Cond.selects RX0 yX0_silkBetween yX0_silkBetween, Cond.code yX0_silkBetween cX0_silkBetween 5 (some .int), Cond.methodLink RX0 50 yX0_finenessAt, Cond.methodLink RX4 167 yX4_cutStrand, Cond.instanceMethod yX4_cutStrand, Cond.selects RX4 yX4_cutStrand yX4_cutStrand, Cond.code yX4_cutStrand cX4_cutStrand 3 (some .int), Cond.fieldLink RX4 40 "SilkMill$Pot" "potNumber" "I", Cond.fieldLink RX4 44 "SilkMill$Pot" "aim" "I", Cond.methodLink RX4 82 yX8_keep]
def wsX11_run_r7 : List Cond := [Cond.instanceMethod yX8_keep, Cond.selects RX8 yX8_keep yX8_keep, Cond.initialized RX8, Cond.code yX8_keep cX8_keep 4 (some .int), Cond.fieldLink RX8 37 "SilkMill$Store" "kept" "I", Cond.fieldLink RX8 41 "SilkMill$Store" "waste" "I", Cond.fieldLink RX8 44 "SilkMill$Strand" "silk" "I", Cond.fieldLink RX8 17 "SilkMill$Store" "skeins" "[LSilkMill$Skein;", Cond.classLink RX8 15 RX7, Cond.instantiable RX7 10, Cond.initialized RX7, Cond.classLink RX8 45 RX9, Cond.instantiable RX9 9, Cond.initialized RX9, Cond.fieldLink RX8 52 "SilkMill$Store" "today" "I", Cond.fieldLink RX8 58 "SilkMill$Store" "silkKept" "I", Cond.methodLink RX8 49 yX9_init_, Cond.instanceMethod yX9_init_, Cond.code yX9_init_ cX9_init_ 2 none, Cond.methodLink RX9 3 objectInit, Cond.instanceMethod objectInit, Cond.code objectInit ⟨#[0xb1]⟩ 1 none, Cond.fieldLink RX9 30 "SilkMill$Strand" "metres" "I", Cond.methodLink RX9 34 Lib.Math.max.name]
def wsX11_run_r8 : List Cond := [Cond.static Lib.Math.max.name, Cond.initialized "java/lang/Math", Cond.code Lib.Math.max.name Lib.Math.max.code 2 (some .int), Cond.fieldLink RX9 40 "SilkMill$Strand" "silk" "I", Cond.fieldLink RX9 43 "SilkMill$Strand" "pieces" "I", Cond.fieldLink RX9 9 "SilkMill$Strand" "fineness" "[I", Cond.fieldLink RX9 15 "SilkMill$Strand" "endCounts" "[I", Cond.fieldLink RX9 18 "SilkMill$Strand" "codes" "[I", Cond.fieldLink RX9 21 "SilkMill$Strand" "firsts" "[I", Cond.fieldLink RX9 24 "SilkMill$Strand" "lengths" "[I", Cond.fieldLink RX9 27 "SilkMill$Strand" "places" "[I", Cond.methodLink RX9 46 yJ7_copyOf_59c91, Cond.static yJ7_copyOf_59c91, Cond.initialized RJ7, Cond.code yJ7_copyOf_59c91 cJ7_copyOf_59c91 3 (some (.array .int)), Cond.methodLink RJ7 316 ⟨"[I", "clone", "()Ljava/lang/Object;"⟩, Cond.sameMethod "[I" "java/lang/Object" "clone" "()Ljava/lang/Object;", Cond.native ⟨"java/lang/Object", "clone", "()Ljava/lang/Object;"⟩, Cond.instanceMethod ⟨"java/lang/Object", "clone", "()Ljava/lang/Object;"⟩, Cond.selects "[I" ⟨"[I", "clone", "()Ljava/lang/Object;"⟩ ⟨"java/lang/Object", "clone", "()Ljava/lang/Object;"⟩, Cond.classLink RJ7 317 "[I", Cond.arrayClass .int, Cond.methodLink RJ7 304 Lib.Math.min.name, Cond.static Lib.Math.min.name]
def wsX11_run_r9 : List Cond := [Cond.code Lib.Math.min.name Lib.Math.min.code 2 (some .int), Cond.methodLink RJ7 150 arraycopyName, Cond.native arraycopyName, Cond.static arraycopyName, Cond.initialized "java/lang/System", Cond.methodLink RX8 55 yX7_init, Cond.instanceMethod yX7_init, Cond.code yX7_init cX7_init 10 none, Cond.methodLink RX7 3 objectInit, Cond.fieldLink RX7 9 "SilkMill$Skein" "latestGrade" "I", Cond.fieldLink RX7 15 "SilkMill$Skein" "strand" "LSilkMill$Strand;", Cond.fieldLink RX7 19 "SilkMill$Skein" "potNumber" "I", Cond.fieldLink RX7 22 "SilkMill$Skein" "aim" "I", Cond.fieldLink RX7 25 "SilkMill$Skein" "dayCut" "I", Cond.fieldLink RX7 28 "SilkMill$Strand" "fineness" "[I", Cond.constant RX7 36 (2147483647), Cond.methodLink RX7 37 Lib.Math.min.name, Cond.methodLink RX7 43 Lib.Math.max.name, Cond.methodLink RX7 46 Lib.Math.abs.name, Cond.static Lib.Math.abs.name, Cond.code Lib.Math.abs.name Lib.Math.abs.code 1 (some .int), Cond.fieldLink RX7 50 "SilkMill$Skein" "least" "I", Cond.fieldLink RX7 53 "SilkMill$Skein" "greatest" "I", Cond.fieldLink RX7 56 "SilkMill$Skein" "slips" "I"]
def wsX11_run_r10 : List Cond := [Cond.methodLink RX4 88 yX9_beginAnew, Cond.instanceMethod yX9_beginAnew, Cond.selects RX9 yX9_beginAnew yX9_beginAnew, Cond.code yX9_beginAnew cX9_beginAnew 1 none, Cond.methodLink RX4 76 yX4_drawMetre, Cond.instanceMethod yX4_drawMetre, Cond.selects RX4 yX4_drawMetre yX4_drawMetre, Cond.code yX4_drawMetre cX4_drawMetre 6 none, Cond.fieldLink RX4 197 "SilkMill$Store" "silkDrawn" "I", Cond.fieldLink RX4 200 "SilkMill$Pot" "metresEver" "I", Cond.methodLink RX4 193 yX9_addMetre, Cond.instanceMethod yX9_addMetre, Cond.selects RX9 yX9_addMetre yX9_addMetre, Cond.code yX9_addMetre cX9_addMetre 3 none, Cond.methodLink RX4 203 yX4_drawEnd, Cond.instanceMethod yX4_drawEnd, Cond.selects RX4 yX4_drawEnd yX4_drawEnd, Cond.code yX4_drawEnd cX4_drawEnd 3 none, Cond.methodLink RX4 207 yX9_addMetreOf, Cond.instanceMethod yX9_addMetreOf, Cond.selects RX9 yX9_addMetreOf yX9_addMetreOf, Cond.code yX9_addMetreOf cX9_addMetreOf 4 none, Cond.fieldLink RX9 52 "SilkMill$Cocoon" "latestPiece" "I", Cond.fieldLink RX9 64 "SilkMill$Cocoon" "drawnTo" "I"]
def wsX11_run_r11 : List Cond := [Cond.methodLink RX9 57 yX0_code, Cond.instanceMethod yX0_code, Cond.selects RX0 yX0_code yX0_code, Cond.code yX0_code cX0_code 1 (some .int), Cond.fieldLink RX0 18 "SilkMill$Cocoon" "lotNumber" "I", Cond.fieldLink RX0 21 "SilkMill$Cocoon" "index" "I", Cond.methodLink RX9 61 yX9_makeRoomForPiece, Cond.instanceMethod yX9_makeRoomForPiece, Cond.selects RX9 yX9_makeRoomForPiece yX9_makeRoomForPiece, Cond.code yX9_makeRoomForPiece cX9_makeRoomForPiece 2 none, Cond.methodLink RX9 67 Lib.Math.min.name, Cond.methodLink RX4 210 yX0_drawOneMetre, Cond.instanceMethod yX0_drawOneMetre, Cond.selects RX0 yX0_drawOneMetre yX0_drawOneMetre, Cond.code yX0_drawOneMetre cX0_drawOneMetre 2 none, Cond.fieldLink RX0 57 "SilkMill$Cocoon" "drawnTo" "I", Cond.fieldLink RX0 9 "SilkMill$Cocoon" "stand" "I", Cond.methodLink RX0 53 yX0_breaksAt, Cond.instanceMethod yX0_breaksAt, Cond.selects RX0 yX0_breaksAt yX0_breaksAt, Cond.code yX0_breaksAt cX0_breaksAt 2 (some .boolean), Cond.fieldLink RX0 24 "SilkMill$Cocoon" "seed" "I", Cond.fieldLink RX0 27 "SilkMill$Cocoon" "frail" "I", Cond.static yX11_next]
def wsX11_run_r12 : List Cond := [Cond.code yX11_next cX11_next 1 (some .int), Cond.constant RX11 380 (1103515245)]
def wsX11_run : List Cond := .code yX11_run cX11_run 6 (some .int) :: ((wsX11_run_r1 ++ (wsX11_run_r2 ++ (wsX11_run_r3 ++ (wsX11_run_r4 ++ (wsX11_run_r5 ++ (wsX11_run_r6 ++ (wsX11_run_r7 ++ (wsX11_run_r8 ++ (wsX11_run_r9 ++ (wsX11_run_r10 ++ (wsX11_run_r11 ++ wsX11_run_r12))))))))))) ++ wsX110 ++ wsX40 ++ wsX50 ++ wsX00 ++ wsX60 ++ wsX80 ++ wsX90 ++ wsX70)
def wsX11_about_r1 : List Cond := [Cond.fieldLink RX11 173 "SilkMill$Pot" "basket" "LSilkMill$Row;", Cond.fieldLink RX11 177 "SilkMill$Row" "size" "I", Cond.fieldLink RX11 180 "SilkMill$Pot" "ends" "LSilkMill$Row;", Cond.fieldLink RX11 183 "SilkMill$Pot" "lost" "LSilkMill$Row;", Cond.fieldLink RX11 186 "SilkMill$Pot" "strand" "LSilkMill$Strand;", Cond.fieldLink RX11 190 "SilkMill$Strand" "metres" "I", Cond.fieldLink RX11 195 "SilkMill$Pot" "stop" "I", Cond.fieldLink RX11 198 "SilkMill$Pot" "search" "I", Cond.fieldLink RX11 205 "SilkMill$Pot" "metresEver" "I", Cond.fieldLink RX11 208 "SilkMill$Pot" "ticksEver" "I", Cond.fieldLink RX11 162 "SilkMill$Pot" "rules" "LSilkMill$Rules;", Cond.fieldLink RX11 165 "SilkMill$Rules" "size" "I", Cond.fieldLink RX11 138 "SilkMill$Pot" "aim" "I", Cond.methodLink RX11 134 yX11_potAt, Cond.instanceMethod yX11_potAt, Cond.selects RX11 yX11_potAt yX11_potAt, Cond.initialized RX11, Cond.code yX11_potAt cX11_potAt 2 (some (.object "SilkMill$Pot")), Cond.fieldLink RX11 124 "SilkMill" "potsMade" "I", Cond.fieldLink RX11 21 "SilkMill" "pots" "[LSilkMill$Pot;", Cond.methodLink RX11 201 yX5_sumOfFineness, Cond.instanceMethod yX5_sumOfFineness, Cond.selects RX5 yX5_sumOfFineness yX5_sumOfFineness, Cond.initialized RX5]
def wsX11_about_r2 : List Cond := [Cond.code yX5_sumOfFineness cX5_sumOfFineness 4 (some .int), Cond.fieldLink RX5 23 "SilkMill$Row" "size" "I", Cond.fieldLink RX5 38 "SilkMill$Cocoon" "drawnTo" "I", Cond.methodLink RX5 34 yX5_at, Cond.instanceMethod yX5_at, Cond.selects RX5 yX5_at yX5_at, Cond.code yX5_at cX5_at 2 (some (.object "SilkMill$Cocoon")), Cond.fieldLink RX5 17 "SilkMill$Row" "cells" "[LSilkMill$Cocoon;", Cond.methodLink RX5 27 yX5_cellOf, Cond.instanceMethod yX5_cellOf, Cond.selects RX5 yX5_cellOf yX5_cellOf, Cond.code yX5_cellOf cX5_cellOf 3 (some .int), Cond.fieldLink RX5 31 "SilkMill$Row" "head" "I", Cond.methodLink RX5 41 yX0_finenessAt, Cond.instanceMethod yX0_finenessAt, Cond.selects RX0 yX0_finenessAt yX0_finenessAt, Cond.initialized RX0, Cond.code yX0_finenessAt cX0_finenessAt 2 (some .int), Cond.fieldLink RX0 40 "SilkMill$Cocoon" "length" "I", Cond.fieldLink RX0 43 "SilkMill$Cocoon" "base" "I"]
def wsX11_about : List Cond := .code yX11_about cX11_about 4 (some .int) :: ((wsX11_about_r1 ++ wsX11_about_r2) ++ wsX40 ++ wsX50 ++ wsX90 ++ wsX60 ++ wsX110 ++ wsX00)
def wsX11_in_r1 : List Cond := [Cond.classLink RX11 219 "java/util/NoSuchElementException", Cond.initialized "java/util/NoSuchElementException", Cond.methodLink RX11 134 yX11_potAt, Cond.instanceMethod yX11_potAt, Cond.selects RX11 yX11_potAt yX11_potAt, Cond.initialized RX11, Cond.code yX11_potAt cX11_potAt 2 (some (.object "SilkMill$Pot")), Cond.fieldLink RX11 124 "SilkMill" "potsMade" "I", Cond.fieldLink RX11 21 "SilkMill" "pots" "[LSilkMill$Pot;", Cond.methodLink RX11 211 yX4_rowNumbered, Cond.instanceMethod yX4_rowNumbered, Cond.selects RX4 yX4_rowNumbered yX4_rowNumbered, Cond.initialized RX4, Cond.code yX4_rowNumbered cX4_rowNumbered 2 (some (.object "SilkMill$Row")), Cond.fieldLink RX4 14 "SilkMill$Pot" "basket" "LSilkMill$Row;", Cond.fieldLink RX4 20 "SilkMill$Pot" "ends" "LSilkMill$Row;", Cond.fieldLink RX4 23 "SilkMill$Pot" "lost" "LSilkMill$Row;", Cond.methodLink RX11 215 yX5_at, Cond.instanceMethod yX5_at, Cond.selects RX5 yX5_at yX5_at, Cond.initialized RX5, Cond.code yX5_at cX5_at 2 (some (.object "SilkMill$Cocoon")), Cond.fieldLink RX5 23 "SilkMill$Row" "size" "I", Cond.fieldLink RX5 17 "SilkMill$Row" "cells" "[LSilkMill$Cocoon;"]
def wsX11_in_r2 : List Cond := [Cond.methodLink RX5 27 yX5_cellOf, Cond.instanceMethod yX5_cellOf, Cond.selects RX5 yX5_cellOf yX5_cellOf, Cond.code yX5_cellOf cX5_cellOf 3 (some .int), Cond.fieldLink RX5 31 "SilkMill$Row" "head" "I", Cond.methodLink RX11 224 yX0_code, Cond.instanceMethod yX0_code, Cond.selects RX0 yX0_code yX0_code, Cond.initialized RX0, Cond.code yX0_code cX0_code 1 (some .int), Cond.fieldLink RX0 18 "SilkMill$Cocoon" "lotNumber" "I", Cond.fieldLink RX0 21 "SilkMill$Cocoon" "index" "I"]
def wsX11_in : List Cond := .code yX11_in cX11_in 7 (some .int) :: ((wsX11_in_r1 ++ wsX11_in_r2) ++ wsX110 ++ wsX40 ++ wsX50 ++ wsX00 ++ (vx_atS RX11 223 "java/util/NoSuchElementException" ["java/lang/RuntimeException", "java/lang/Exception"]).filter goodWord)
def wsX11_cut_r1 : List Cond := [Cond.fieldLink RX11 42 "SilkMill" "store" "LSilkMill$Store;", Cond.methodLink RX11 134 yX11_potAt, Cond.instanceMethod yX11_potAt, Cond.selects RX11 yX11_potAt yX11_potAt, Cond.initialized RX11, Cond.code yX11_potAt cX11_potAt 2 (some (.object "SilkMill$Pot")), Cond.fieldLink RX11 124 "SilkMill" "potsMade" "I", Cond.fieldLink RX11 21 "SilkMill" "pots" "[LSilkMill$Pot;", Cond.methodLink RX11 227 yX4_cutStrand, Cond.instanceMethod yX4_cutStrand, Cond.selects RX4 yX4_cutStrand yX4_cutStrand, Cond.initialized RX4, Cond.code yX4_cutStrand cX4_cutStrand 3 (some .int), Cond.fieldLink RX4 29 "SilkMill$Pot" "strand" "LSilkMill$Strand;", Cond.fieldLink RX4 79 "SilkMill$Strand" "metres" "I", Cond.fieldLink RX4 40 "SilkMill$Pot" "potNumber" "I", Cond.fieldLink RX4 44 "SilkMill$Pot" "aim" "I", Cond.methodLink RX4 82 yX8_keep, Cond.instanceMethod yX8_keep, Cond.selects RX8 yX8_keep yX8_keep, Cond.initialized RX8, Cond.code yX8_keep cX8_keep 4 (some .int), Cond.fieldLink RX8 37 "SilkMill$Store" "kept" "I", Cond.fieldLink RX8 41 "SilkMill$Store" "waste" "I"]
def wsX11_cut_r2 : List Cond := [Cond.fieldLink RX8 44 "SilkMill$Strand" "silk" "I", Cond.fieldLink RX8 17 "SilkMill$Store" "skeins" "[LSilkMill$Skein;", Cond.classLink RX8 15 RX7, Cond.instantiable RX7 10, Cond.initialized RX7, Cond.classLink RX8 45 RX9, Cond.instantiable RX9 9, Cond.initialized RX9, Cond.fieldLink RX8 52 "SilkMill$Store" "today" "I", Cond.fieldLink RX8 58 "SilkMill$Store" "silkKept" "I", Cond.methodLink RX8 49 yX9_init_, Cond.instanceMethod yX9_init_, Cond.code yX9_init_ cX9_init_ 2 none, Cond.methodLink RX9 3 objectInit, Cond.instanceMethod objectInit, Cond.code objectInit ⟨#[0xb1]⟩ 1 none, Cond.fieldLink RX9 30 "SilkMill$Strand" "metres" "I", Cond.methodLink RX9 34 Lib.Math.max.name, Cond.static Lib.Math.max.name, Cond.initialized "java/lang/Math", Cond.code Lib.Math.max.name Lib.Math.max.code 2 (some .int), Cond.fieldLink RX9 40 "SilkMill$Strand" "silk" "I", Cond.fieldLink RX9 43 "SilkMill$Strand" "pieces" "I", Cond.fieldLink RX9 9 "SilkMill$Strand" "fineness" "[I"]
def wsX11_cut_r3 : List Cond := [Cond.fieldLink RX9 15 "SilkMill$Strand" "endCounts" "[I", Cond.fieldLink RX9 18 "SilkMill$Strand" "codes" "[I", Cond.fieldLink RX9 21 "SilkMill$Strand" "firsts" "[I", Cond.fieldLink RX9 24 "SilkMill$Strand" "lengths" "[I", Cond.fieldLink RX9 27 "SilkMill$Strand" "places" "[I", Cond.methodLink RX9 46 yJ7_copyOf_59c91, Cond.static yJ7_copyOf_59c91, Cond.initialized RJ7, Cond.code yJ7_copyOf_59c91 cJ7_copyOf_59c91 3 (some (.array .int)), Cond.methodLink RJ7 316 ⟨"[I", "clone", "()Ljava/lang/Object;"⟩, Cond.sameMethod "[I" "java/lang/Object" "clone" "()Ljava/lang/Object;", Cond.native ⟨"java/lang/Object", "clone", "()Ljava/lang/Object;"⟩, Cond.instanceMethod ⟨"java/lang/Object", "clone", "()Ljava/lang/Object;"⟩, Cond.selects "[I" ⟨"[I", "clone", "()Ljava/lang/Object;"⟩ ⟨"java/lang/Object", "clone", "()Ljava/lang/Object;"⟩, Cond.classLink RJ7 317 "[I", Cond.arrayClass .int, Cond.methodLink RJ7 304 Lib.Math.min.name, Cond.static Lib.Math.min.name, Cond.code Lib.Math.min.name Lib.Math.min.code 2 (some .int), Cond.methodLink RJ7 150 arraycopyName, Cond.native arraycopyName, Cond.static arraycopyName, Cond.initialized "java/lang/System", Cond.methodLink RX8 55 yX7_init]
def wsX11_cut_r4 : List Cond := [Cond.instanceMethod yX7_init, Cond.code yX7_init cX7_init 10 none, Cond.methodLink RX7 3 objectInit, Cond.fieldLink RX7 9 "SilkMill$Skein" "latestGrade" "I", Cond.fieldLink RX7 15 "SilkMill$Skein" "strand" "LSilkMill$Strand;", Cond.fieldLink RX7 19 "SilkMill$Skein" "potNumber" "I", Cond.fieldLink RX7 22 "SilkMill$Skein" "aim" "I", Cond.fieldLink RX7 25 "SilkMill$Skein" "dayCut" "I", Cond.fieldLink RX7 28 "SilkMill$Strand" "fineness" "[I", Cond.constant RX7 36 (2147483647), Cond.methodLink RX7 37 Lib.Math.min.name, Cond.methodLink RX7 43 Lib.Math.max.name, Cond.methodLink RX7 46 Lib.Math.abs.name, Cond.static Lib.Math.abs.name, Cond.code Lib.Math.abs.name Lib.Math.abs.code 1 (some .int), Cond.fieldLink RX7 50 "SilkMill$Skein" "least" "I", Cond.fieldLink RX7 53 "SilkMill$Skein" "greatest" "I", Cond.fieldLink RX7 56 "SilkMill$Skein" "slips" "I", Cond.methodLink RX4 88 yX9_beginAnew, Cond.instanceMethod yX9_beginAnew, Cond.selects RX9 yX9_beginAnew yX9_beginAnew, Cond.code yX9_beginAnew cX9_beginAnew 1 none]
def wsX11_cut : List Cond := .code yX11_cut cX11_cut 3 (some .int) :: ((wsX11_cut_r1 ++ (wsX11_cut_r2 ++ (wsX11_cut_r3 ++ wsX11_cut_r4))) ++ wsX110 ++ wsX40 ++ wsX90 ++ wsX80 ++ wsX70)
def wsX11_skein_r1 : List Cond := [Cond.fieldLink RX11 42 "SilkMill" "store" "LSilkMill$Store;", Cond.fieldLink RX11 235 "SilkMill$Skein" "potNumber" "I", Cond.fieldLink RX11 238 "SilkMill$Skein" "dayCut" "I", Cond.fieldLink RX11 241 "SilkMill$Skein" "strand" "LSilkMill$Strand;", Cond.fieldLink RX11 190 "SilkMill$Strand" "metres" "I", Cond.fieldLink RX11 242 "SilkMill$Strand" "silk" "I", Cond.fieldLink RX11 245 "SilkMill$Skein" "least" "I", Cond.fieldLink RX11 248 "SilkMill$Skein" "greatest" "I", Cond.fieldLink RX11 251 "SilkMill$Skein" "slips" "I", Cond.fieldLink RX11 254 "SilkMill$Strand" "pieces" "I", Cond.fieldLink RX11 257 "SilkMill$Skein" "latestGrade" "I", Cond.fieldLink RX11 260 "SilkMill$Skein" "sold" "Z", Cond.fieldLink RX11 268 "SilkMill$Skein" "aim" "I", Cond.methodLink RX11 231 yX8_skeinAt, Cond.instanceMethod yX8_skeinAt, Cond.selects RX8 yX8_skeinAt yX8_skeinAt, Cond.initialized RX8, Cond.code yX8_skeinAt cX8_skeinAt 2 (some (.object "SilkMill$Skein")), Cond.fieldLink RX8 37 "SilkMill$Store" "kept" "I", Cond.fieldLink RX8 17 "SilkMill$Store" "skeins" "[LSilkMill$Skein;", Cond.methodLink RX11 264 yX8_priceOf, Cond.instanceMethod yX8_priceOf, Cond.selects RX8 yX8_priceOf yX8_priceOf, Cond.code yX8_priceOf cX8_priceOf 3 (some .int)]
def wsX11_skein_r2 : List Cond := [Cond.fieldLink RX8 61 "SilkMill$Skein" "latestGrade" "I", Cond.fieldLink RX8 68 "SilkMill$Skein" "strand" "LSilkMill$Strand;", Cond.fieldLink RX8 44 "SilkMill$Strand" "silk" "I", Cond.fieldLink RX8 9 "SilkMill$Store" "prices" "[I", Cond.static yX11_isWithin, Cond.initialized RX11, Cond.code yX11_isWithin cX11_isWithin 3 (some .boolean)]
def wsX11_skein : List Cond := .code yX11_skein cX11_skein 4 (some .int) :: ((wsX11_skein_r1 ++ wsX11_skein_r2) ++ wsX110 ++ wsX70 ++ wsX90 ++ wsX80)
def wsX11_metre : List Cond := .code yX11_metre cX11_metre 5 (some .int) :: ([.fieldLink RX11 42 "SilkMill" "store" "LSilkMill$Store;", .fieldLink RX11 241 "SilkMill$Skein" "strand" "LSilkMill$Strand;", .fieldLink RX11 190 "SilkMill$Strand" "metres" "I", .fieldLink RX11 269 "SilkMill$Strand" "fineness" "[I", .fieldLink RX11 272 "SilkMill$Strand" "endCounts" "[I", .methodLink RX11 231 yX8_skeinAt, .instanceMethod yX8_skeinAt, .selects RX8 yX8_skeinAt yX8_skeinAt, .initialized RX8, .code yX8_skeinAt cX8_skeinAt 2 (some (.object "SilkMill$Skein")), .fieldLink RX8 37 "SilkMill$Store" "kept" "I", .fieldLink RX8 17 "SilkMill$Store" "skeins" "[LSilkMill$Skein;"] ++ wsX110 ++ wsX70 ++ wsX90 ++ wsX80)
def wsX11_piece : List Cond := .code yX11_piece cX11_piece 5 (some .int) :: ([.fieldLink RX11 42 "SilkMill" "store" "LSilkMill$Store;", .fieldLink RX11 241 "SilkMill$Skein" "strand" "LSilkMill$Strand;", .fieldLink RX11 254 "SilkMill$Strand" "pieces" "I", .fieldLink RX11 275 "SilkMill$Strand" "codes" "[I", .fieldLink RX11 278 "SilkMill$Strand" "firsts" "[I", .fieldLink RX11 281 "SilkMill$Strand" "lengths" "[I", .fieldLink RX11 284 "SilkMill$Strand" "places" "[I", .methodLink RX11 231 yX8_skeinAt, .instanceMethod yX8_skeinAt, .selects RX8 yX8_skeinAt yX8_skeinAt, .initialized RX8, .code yX8_skeinAt cX8_skeinAt 2 (some (.object "SilkMill$Skein")), .fieldLink RX8 37 "SilkMill$Store" "kept" "I", .fieldLink RX8 17 "SilkMill$Store" "skeins" "[LSilkMill$Skein;"] ++ wsX110 ++ wsX70 ++ wsX90 ++ wsX80)
def wsX11_grade_r1 : List Cond := [Cond.fieldLink RX11 42 "SilkMill" "store" "LSilkMill$Store;", Cond.fieldLink RX11 241 "SilkMill$Skein" "strand" "LSilkMill$Strand;", Cond.fieldLink RX11 190 "SilkMill$Strand" "metres" "I", Cond.fieldLink RX11 49 "SilkMill" "latestDraw" "LSilkMill$Draw;", Cond.fieldLink RX11 257 "SilkMill$Skein" "latestGrade" "I", Cond.methodLink RX11 231 yX8_skeinAt, Cond.instanceMethod yX8_skeinAt, Cond.selects RX8 yX8_skeinAt yX8_skeinAt, Cond.initialized RX8, Cond.code yX8_skeinAt cX8_skeinAt 2 (some (.object "SilkMill$Skein")), Cond.fieldLink RX8 37 "SilkMill$Store" "kept" "I", Cond.fieldLink RX8 17 "SilkMill$Store" "skeins" "[LSilkMill$Skein;", Cond.methodLink RX11 67 yX11_isWithin, Cond.static yX11_isWithin, Cond.initialized RX11, Cond.code yX11_isWithin cX11_isWithin 3 (some .boolean), Cond.methodLink RX11 287 yX1_drawFrom, Cond.instanceMethod yX1_drawFrom, Cond.selects RX1 yX1_drawFrom yX1_drawFrom, Cond.initialized RX1, Cond.code yX1_drawFrom cX1_drawFrom 7 none, Cond.fieldLink RX1 15 "SilkMill$Draw" "size" "I", Cond.fieldLink RX1 19 "SilkMill$Draw" "off" "I", Cond.fieldLink RX1 22 "SilkMill$Skein" "strand" "LSilkMill$Strand;"]
def wsX11_grade_r2 : List Cond := [Cond.fieldLink RX1 28 "SilkMill$Strand" "metres" "I", Cond.fieldLink RX1 9 "SilkMill$Draw" "metres" "[I", Cond.fieldLink RX1 40 "SilkMill$Strand" "fineness" "[I", Cond.fieldLink RX1 43 "SilkMill$Skein" "aim" "I", Cond.methodLink RX1 46 Lib.Math.abs.name, Cond.static Lib.Math.abs.name, Cond.initialized "java/lang/Math", Cond.code Lib.Math.abs.name Lib.Math.abs.code 1 (some .int), Cond.methodLink RX1 51 Lib.Math.max.name, Cond.static Lib.Math.max.name, Cond.code Lib.Math.max.name Lib.Math.max.code 2 (some .int), Cond.fieldLink RX1 57 "SilkMill$Draw" "bound" "I", Cond.static yX11_next, Cond.code yX11_next cX11_next 1 (some .int), Cond.constant RX11 380 (1103515245), Cond.methodLink RX1 36 yX1_notDrawnFrom, Cond.instanceMethod yX1_notDrawnFrom, Cond.selects RX1 yX1_notDrawnFrom yX1_notDrawnFrom, Cond.code yX1_notDrawnFrom cX1_notDrawnFrom 5 (some .int), Cond.methodLink RX1 60 yX1_isDrawn, Cond.instanceMethod yX1_isDrawn, Cond.selects RX1 yX1_isDrawn yX1_isDrawn, Cond.code yX1_isDrawn cX1_isDrawn 3 (some .boolean), Cond.methodLink RX1 54 yX1_boundOf]
def wsX11_grade_r3 : List Cond := [Cond.static yX1_boundOf, Cond.code yX1_boundOf cX1_boundOf 5 (some .int), Cond.constantLong RX1 68 (20), Cond.methodLink RX1 64 yX1_waysInOrder, Cond.static yX1_waysInOrder, Cond.code yX1_waysInOrder cX1_waysInOrder 5 (some .long), Cond.methodLink RX11 291 yX1_gradeOfOff, Cond.instanceMethod yX1_gradeOfOff, Cond.selects RX1 yX1_gradeOfOff yX1_gradeOfOff, Cond.code yX1_gradeOfOff cX1_gradeOfOff 1 (some .int)]
def wsX11_grade : List Cond := .code yX11_grade cX11_grade 5 (some .int) :: ((wsX11_grade_r1 ++ (wsX11_grade_r2 ++ wsX11_grade_r3)) ++ wsX110 ++ wsX70 ++ wsX90 ++ wsX80 ++ wsX10)
def wsX11_drawn : List Cond := .code yX11_drawn cX11_drawn 2 (some .int) :: ([.fieldLink RX11 49 "SilkMill" "latestDraw" "LSilkMill$Draw;", .fieldLink RX11 294 "SilkMill$Draw" "size" "I", .fieldLink RX11 295 "SilkMill$Draw" "off" "I", .fieldLink RX11 298 "SilkMill$Draw" "bound" "I", .fieldLink RX11 301 "SilkMill$Draw" "metres" "[I"] ++ wsX110 ++ wsX10)
def wsX11_shelfAt : List Cond := .code yX11_shelfAt cX11_shelfAt 2 (some (.object "SilkMill$Place")) :: ([.fieldLink RX11 55 "SilkMill" "shelf" "[LSilkMill$Place;"] ++ wsX110)
def wsX11_shelve_r1 : List Cond := [Cond.fieldLink RX11 307 "SilkMill$Place" "kind" "I", Cond.fieldLink RX11 321 "SilkMill" "shelved" "I", Cond.methodLink RX11 303 yX11_shelfAt, Cond.instanceMethod yX11_shelfAt, Cond.selects RX11 yX11_shelfAt yX11_shelfAt, Cond.initialized RX11, Cond.code yX11_shelfAt cX11_shelfAt 2 (some (.object "SilkMill$Place")), Cond.fieldLink RX11 55 "SilkMill" "shelf" "[LSilkMill$Place;", Cond.methodLink RX11 74 yX11_cocoonAt, Cond.instanceMethod yX11_cocoonAt, Cond.selects RX11 yX11_cocoonAt yX11_cocoonAt, Cond.code yX11_cocoonAt cX11_cocoonAt 3 (some (.object "SilkMill$Cocoon")), Cond.fieldLink RX11 63 "SilkMill" "lots" "I", Cond.fieldLink RX11 15 "SilkMill" "lotSizes" "[I", Cond.fieldLink RX11 11 "SilkMill" "cocoons" "[LSilkMill$Cocoon;", Cond.methodLink RX11 310 yX3_putCocoon, Cond.instanceMethod yX3_putCocoon, Cond.selects RX3 yX3_putCocoon yX3_putCocoon, Cond.initialized RX3, Cond.code yX3_putCocoon cX3_putCocoon 2 (some .boolean), Cond.fieldLink RX3 22 "SilkMill$Cocoon" "stand" "I", Cond.fieldLink RX3 27 "SilkMill$Place" "cocoon" "LSilkMill$Cocoon;", Cond.fieldLink RX3 9 "SilkMill$Place" "kind" "I", Cond.methodLink RX11 314 yX3_putNumber]
def wsX11_shelve_r2 : List Cond := [Cond.instanceMethod yX3_putNumber, Cond.selects RX3 yX3_putNumber yX3_putNumber, Cond.code yX3_putNumber cX3_putNumber 2 (some .boolean), Cond.fieldLink RX3 31 "SilkMill$Place" "number" "I", Cond.methodLink RX11 317 yX3_putWord, Cond.instanceMethod yX3_putWord, Cond.selects RX3 yX3_putWord yX3_putWord, Cond.code yX3_putWord cX3_putWord 3 (some .boolean), Cond.fieldLink RX3 15 "SilkMill$Place" "word" "[I", Cond.fieldLink RX3 19 "SilkMill$Place" "wordSize" "I", Cond.static yX11_isWithin, Cond.code yX11_isWithin cX11_isWithin 3 (some .boolean), Cond.methodLink RX3 38 yJ7_fill_53178, Cond.static yJ7_fill_53178, Cond.initialized RJ7, Cond.code yJ7_fill_53178 cJ7_fill_53178 4 none]
def wsX11_shelve : List Cond := .code yX11_shelve cX11_shelve 7 (some .boolean) :: ((wsX11_shelve_r1 ++ wsX11_shelve_r2) ++ wsX30 ++ wsX110 ++ wsX00)
def wsX11_take_r1 : List Cond := [Cond.fieldLink RX11 307 "SilkMill$Place" "kind" "I", Cond.fieldLink RX11 324 "SilkMill$Place" "wordSize" "I", Cond.fieldLink RX11 321 "SilkMill" "shelved" "I", Cond.methodLink RX11 303 yX11_shelfAt, Cond.instanceMethod yX11_shelfAt, Cond.selects RX11 yX11_shelfAt yX11_shelfAt, Cond.initialized RX11, Cond.code yX11_shelfAt cX11_shelfAt 2 (some (.object "SilkMill$Place")), Cond.fieldLink RX11 55 "SilkMill" "shelf" "[LSilkMill$Place;", Cond.methodLink RX11 67 yX11_isWithin, Cond.static yX11_isWithin, Cond.code yX11_isWithin cX11_isWithin 3 (some .boolean), Cond.methodLink RX11 327 yX3_giveUp, Cond.instanceMethod yX3_giveUp, Cond.selects RX3 yX3_giveUp yX3_giveUp, Cond.initialized RX3, Cond.code yX3_giveUp cX3_giveUp 2 (some .int), Cond.fieldLink RX3 9 "SilkMill$Place" "kind" "I", Cond.fieldLink RX3 31 "SilkMill$Place" "number" "I", Cond.methodLink RX3 44 yX3_sumOfWord, Cond.instanceMethod yX3_sumOfWord, Cond.selects RX3 yX3_sumOfWord yX3_sumOfWord, Cond.code yX3_sumOfWord cX3_sumOfWord 3 (some .int), Cond.fieldLink RX3 19 "SilkMill$Place" "wordSize" "I"]
def wsX11_take_r2 : List Cond := [Cond.fieldLink RX3 15 "SilkMill$Place" "word" "[I", Cond.methodLink RX3 48 yX3_returnCocoon, Cond.instanceMethod yX3_returnCocoon, Cond.selects RX3 yX3_returnCocoon yX3_returnCocoon, Cond.code yX3_returnCocoon cX3_returnCocoon 1 (some .int), Cond.fieldLink RX3 27 "SilkMill$Place" "cocoon" "LSilkMill$Cocoon;", Cond.fieldLink RX3 22 "SilkMill$Cocoon" "stand" "I", Cond.methodLink RX3 51 yX0_code, Cond.instanceMethod yX0_code, Cond.selects RX0 yX0_code yX0_code, Cond.initialized RX0, Cond.code yX0_code cX0_code 1 (some .int), Cond.fieldLink RX0 18 "SilkMill$Cocoon" "lotNumber" "I", Cond.fieldLink RX0 21 "SilkMill$Cocoon" "index" "I"]
def wsX11_take : List Cond := .code yX11_take cX11_take 4 (some .int) :: ((wsX11_take_r1 ++ wsX11_take_r2) ++ wsX30 ++ wsX110 ++ wsX00)
def wsX11_isStretch : List Cond := .code yX11_isStretch cX11_isStretch 3 (some .boolean) :: ([])
def wsX11_copy : List Cond := .code yX11_copy cX11_copy 8 (some .boolean) :: ([.fieldLink RX11 324 "SilkMill$Place" "wordSize" "I", .fieldLink RX11 336 "SilkMill$Place" "word" "[I", .methodLink RX11 118 arraycopyName, .native arraycopyName, .static arraycopyName, .initialized "java/lang/System", .methodLink RX11 303 yX11_shelfAt, .instanceMethod yX11_shelfAt, .selects RX11 yX11_shelfAt yX11_shelfAt, .initialized RX11, .code yX11_shelfAt cX11_shelfAt 2 (some (.object "SilkMill$Place")), .fieldLink RX11 55 "SilkMill" "shelf" "[LSilkMill$Place;", .methodLink RX11 330 yX3_hasRow, .instanceMethod yX3_hasRow, .selects RX3 yX3_hasRow yX3_hasRow, .initialized RX3, .code yX3_hasRow cX3_hasRow 1 (some .boolean), .fieldLink RX3 9 "SilkMill$Place" "kind" "I", .fieldLink RX3 19 "SilkMill$Place" "wordSize" "I", .methodLink RX11 333 yX11_isStretch, .static yX11_isStretch, .code yX11_isStretch cX11_isStretch 3 (some .boolean)] ++ wsX30 ++ wsX110)
def wsX11_number : List Cond := .code yX11_number cX11_number 4 (some .int) :: ([.fieldLink RX11 324 "SilkMill$Place" "wordSize" "I", .fieldLink RX11 336 "SilkMill$Place" "word" "[I", .methodLink RX11 303 yX11_shelfAt, .instanceMethod yX11_shelfAt, .selects RX11 yX11_shelfAt yX11_shelfAt, .initialized RX11, .code yX11_shelfAt cX11_shelfAt 2 (some (.object "SilkMill$Place")), .fieldLink RX11 55 "SilkMill" "shelf" "[LSilkMill$Place;", .methodLink RX11 330 yX3_hasRow, .instanceMethod yX3_hasRow, .selects RX3 yX3_hasRow yX3_hasRow, .initialized RX3, .code yX3_hasRow cX3_hasRow 1 (some .boolean), .fieldLink RX3 9 "SilkMill$Place" "kind" "I", .fieldLink RX3 19 "SilkMill$Place" "wordSize" "I"] ++ wsX30 ++ wsX110)
def wsX11_price : List Cond := .code yX11_price cX11_price 3 (some .boolean) :: ([.fieldLink RX11 42 "SilkMill" "store" "LSilkMill$Store;", .fieldLink RX11 339 "SilkMill$Store" "prices" "[I", .methodLink RX11 67 yX11_isWithin, .static yX11_isWithin, .initialized RX11, .code yX11_isWithin cX11_isWithin 3 (some .boolean)] ++ wsX110 ++ wsX80)
def wsX11_mix_r1 : List Cond := [Cond.fieldLink RX11 42 "SilkMill" "store" "LSilkMill$Store;", Cond.methodLink RX11 342 yX8_mixFor, Cond.instanceMethod yX8_mixFor, Cond.selects RX8 yX8_mixFor yX8_mixFor, Cond.initialized RX8, Cond.code yX8_mixFor cX8_mixFor 7 (some .int), Cond.fieldLink RX8 33 "SilkMill$Store" "mixer" "LSilkMill$Mixer;", Cond.fieldLink RX8 37 "SilkMill$Store" "kept" "I", Cond.fieldLink RX8 80 "SilkMill$Skein" "sold" "Z", Cond.fieldLink RX8 84 "SilkMill$Skein" "least" "I", Cond.fieldLink RX8 87 "SilkMill$Skein" "greatest" "I", Cond.fieldLink RX8 68 "SilkMill$Skein" "strand" "LSilkMill$Strand;", Cond.fieldLink RX8 44 "SilkMill$Strand" "silk" "I", Cond.methodLink RX8 72 yX2_beginFor, Cond.instanceMethod yX2_beginFor, Cond.selects RX2 yX2_beginFor yX2_beginFor, Cond.initialized RX2, Cond.code yX2_beginFor cX2_beginFor 2 none, Cond.fieldLink RX2 21 "SilkMill$Mixer" "size" "I", Cond.fieldLink RX2 25 "SilkMill$Mixer" "offered" "I", Cond.fieldLink RX2 28 "SilkMill$Mixer" "wanted" "I", Cond.constant RX2 33 (2147483647), Cond.fieldLink RX2 34 "SilkMill$Mixer" "bestPrice" "I", Cond.fieldLink RX2 37 "SilkMill$Mixer" "bestSet" "I"]
def wsX11_mix_r2 : List Cond := [Cond.methodLink RX8 76 yX8_skeinAt, Cond.instanceMethod yX8_skeinAt, Cond.selects RX8 yX8_skeinAt yX8_skeinAt, Cond.code yX8_skeinAt cX8_skeinAt 2 (some (.object "SilkMill$Skein")), Cond.fieldLink RX8 17 "SilkMill$Store" "skeins" "[LSilkMill$Skein;", Cond.methodLink RX8 90 yX8_priceOf, Cond.instanceMethod yX8_priceOf, Cond.selects RX8 yX8_priceOf yX8_priceOf, Cond.code yX8_priceOf cX8_priceOf 3 (some .int), Cond.fieldLink RX8 61 "SilkMill$Skein" "latestGrade" "I", Cond.fieldLink RX8 9 "SilkMill$Store" "prices" "[I", Cond.static yX11_isWithin, Cond.initialized RX11, Cond.code yX11_isWithin cX11_isWithin 3 (some .boolean), Cond.methodLink RX8 94 yX2_offer, Cond.instanceMethod yX2_offer, Cond.selects RX2 yX2_offer yX2_offer, Cond.code yX2_offer cX2_offer 4 none, Cond.fieldLink RX2 9 "SilkMill$Mixer" "numbers" "[I", Cond.fieldLink RX2 15 "SilkMill$Mixer" "weights" "[I", Cond.fieldLink RX2 18 "SilkMill$Mixer" "prices" "[I", Cond.methodLink RX8 98 yX2_leastPrice, Cond.instanceMethod yX2_leastPrice, Cond.selects RX2 yX2_leastPrice yX2_leastPrice]
def wsX11_mix_r3 : List Cond := [Cond.code yX2_leastPrice cX2_leastPrice 1 (some .int), Cond.methodLink RX2 40 yX2_seek, Cond.static yX2_seek, Cond.code yX2_seek cX2_seek 5 none, Cond.methodLink RX8 102 yX8_markMix, Cond.instanceMethod yX8_markMix, Cond.selects RX8 yX8_markMix yX8_markMix, Cond.code yX8_markMix cX8_markMix 4 none, Cond.fieldLink RX8 110 "SilkMill$Skein" "inLatestMix" "Z", Cond.methodLink RX8 106 yX2_isChosen, Cond.instanceMethod yX2_isChosen, Cond.selects RX2 yX2_isChosen yX2_isChosen, Cond.code yX2_isChosen cX2_isChosen 3 (some .boolean)]
def wsX11_mix : List Cond := .code yX11_mix cX11_mix 5 (some .int) :: ((wsX11_mix_r1 ++ (wsX11_mix_r2 ++ wsX11_mix_r3)) ++ wsX110 ++ wsX80 ++ wsX70 ++ wsX90 ++ wsX20)
def wsX11_mixed : List Cond := .code yX11_mixed cX11_mixed 3 (some .boolean) :: ([.fieldLink RX11 42 "SilkMill" "store" "LSilkMill$Store;", .fieldLink RX11 346 "SilkMill$Skein" "inLatestMix" "Z", .methodLink RX11 231 yX8_skeinAt, .instanceMethod yX8_skeinAt, .selects RX8 yX8_skeinAt yX8_skeinAt, .initialized RX8, .code yX8_skeinAt cX8_skeinAt 2 (some (.object "SilkMill$Skein")), .fieldLink RX8 37 "SilkMill$Store" "kept" "I", .fieldLink RX8 17 "SilkMill$Store" "skeins" "[LSilkMill$Skein;"] ++ wsX110 ++ wsX70 ++ wsX80)
def wsX11_day : List Cond := .code yX11_day cX11_day 1 (some .int) :: ([.fieldLink RX11 42 "SilkMill" "store" "LSilkMill$Store;", .fieldLink RX11 349 "SilkMill$Store" "today" "I"] ++ wsX110 ++ wsX80)
def wsX11_fault : List Cond := .code yX11_fault cX11_fault 3 (some .boolean) :: ([.fieldLink RX11 42 "SilkMill" "store" "LSilkMill$Store;", .methodLink RX11 231 yX8_skeinAt, .instanceMethod yX8_skeinAt, .selects RX8 yX8_skeinAt yX8_skeinAt, .initialized RX8, .code yX8_skeinAt cX8_skeinAt 2 (some (.object "SilkMill$Skein")), .fieldLink RX8 37 "SilkMill$Store" "kept" "I", .fieldLink RX8 17 "SilkMill$Store" "skeins" "[LSilkMill$Skein;", .methodLink RX11 67 yX11_isWithin, .static yX11_isWithin, .initialized RX11, .code yX11_isWithin cX11_isWithin 3 (some .boolean), .methodLink RX11 352 yX8_tellFault, .instanceMethod yX8_tellFault, .selects RX8 yX8_tellFault yX8_tellFault, .code yX8_tellFault cX8_tellFault 3 (some .boolean), .fieldLink RX8 113 "SilkMill$Store" "faults" "I", .fieldLink RX8 21 "SilkMill$Store" "faultSkeins" "[I", .fieldLink RX8 24 "SilkMill$Store" "faultDays" "[I", .fieldLink RX8 52 "SilkMill$Store" "today" "I", .fieldLink RX8 27 "SilkMill$Store" "faultAmounts" "[I"] ++ wsX110 ++ wsX80)
def wsX11_pay_r1 : List Cond := [Cond.fieldLink RX11 42 "SilkMill" "store" "LSilkMill$Store;", Cond.fieldLink RX11 349 "SilkMill$Store" "today" "I", Cond.methodLink RX11 134 yX11_potAt, Cond.instanceMethod yX11_potAt, Cond.selects RX11 yX11_potAt yX11_potAt, Cond.initialized RX11, Cond.code yX11_potAt cX11_potAt 2 (some (.object "SilkMill$Pot")), Cond.fieldLink RX11 124 "SilkMill" "potsMade" "I", Cond.fieldLink RX11 21 "SilkMill" "pots" "[LSilkMill$Pot;", Cond.methodLink RX11 67 yX11_isWithin, Cond.static yX11_isWithin, Cond.code yX11_isWithin cX11_isWithin 3 (some .boolean), Cond.methodLink RX11 355 yX8_payFor, Cond.instanceMethod yX8_payFor, Cond.selects RX8 yX8_payFor yX8_payFor, Cond.initialized RX8, Cond.code yX8_payFor cX8_payFor 7 (some .int), Cond.fieldLink RX8 37 "SilkMill$Store" "kept" "I", Cond.fieldLink RX8 113 "SilkMill$Store" "faults" "I", Cond.fieldLink RX8 21 "SilkMill$Store" "faultSkeins" "[I", Cond.fieldLink RX8 24 "SilkMill$Store" "faultDays" "[I", Cond.fieldLink RX8 27 "SilkMill$Store" "faultAmounts" "[I", Cond.methodLink RX8 76 yX8_skeinAt, Cond.instanceMethod yX8_skeinAt]
def wsX11_pay_r2 : List Cond := [Cond.selects RX8 yX8_skeinAt yX8_skeinAt, Cond.code yX8_skeinAt cX8_skeinAt 2 (some (.object "SilkMill$Skein")), Cond.fieldLink RX8 17 "SilkMill$Store" "skeins" "[LSilkMill$Skein;", Cond.methodLink RX8 116 yX7_isOf, Cond.instanceMethod yX7_isOf, Cond.selects RX7 yX7_isOf yX7_isOf, Cond.initialized RX7, Cond.code yX7_isOf cX7_isOf 3 (some .boolean), Cond.fieldLink RX7 19 "SilkMill$Skein" "potNumber" "I", Cond.fieldLink RX7 25 "SilkMill$Skein" "dayCut" "I", Cond.methodLink RX8 90 yX8_priceOf, Cond.instanceMethod yX8_priceOf, Cond.selects RX8 yX8_priceOf yX8_priceOf, Cond.code yX8_priceOf cX8_priceOf 3 (some .int), Cond.fieldLink RX8 61 "SilkMill$Skein" "latestGrade" "I", Cond.fieldLink RX8 68 "SilkMill$Skein" "strand" "LSilkMill$Strand;", Cond.fieldLink RX8 44 "SilkMill$Strand" "silk" "I", Cond.fieldLink RX8 9 "SilkMill$Store" "prices" "[I"]
def wsX11_pay : List Cond := .code yX11_pay cX11_pay 4 (some .int) :: ((wsX11_pay_r1 ++ wsX11_pay_r2) ++ wsX110 ++ wsX80 ++ wsX70 ++ wsX90)
def wsX11_silkThatGrows : List Cond := .code yX11_silkThatGrows cX11_silkThatGrows 4 (some .int) :: ([.fieldLink RX11 124 "SilkMill" "potsMade" "I", .fieldLink RX11 186 "SilkMill$Pot" "strand" "LSilkMill$Strand;", .fieldLink RX11 242 "SilkMill$Strand" "silk" "I", .methodLink RX11 134 yX11_potAt, .instanceMethod yX11_potAt, .selects RX11 yX11_potAt yX11_potAt, .initialized RX11, .code yX11_potAt cX11_potAt 2 (some (.object "SilkMill$Pot")), .fieldLink RX11 21 "SilkMill" "pots" "[LSilkMill$Pot;"] ++ wsX110 ++ wsX40 ++ wsX90)
def wsX11_count_r1 : List Cond := [Cond.fieldLink RX11 63 "SilkMill" "lots" "I", Cond.fieldLink RX11 124 "SilkMill" "potsMade" "I", Cond.fieldLink RX11 42 "SilkMill" "store" "LSilkMill$Store;", Cond.fieldLink RX11 359 "SilkMill$Store" "kept" "I", Cond.fieldLink RX11 349 "SilkMill$Store" "today" "I", Cond.fieldLink RX11 28 "SilkMill" "tape" "LSilkMill$Tape;", Cond.fieldLink RX11 145 "SilkMill$Tape" "size" "I", Cond.fieldLink RX11 362 "SilkMill$Store" "faults" "I", Cond.fieldLink RX11 365 "SilkMill$Store" "silkDrawn" "I", Cond.fieldLink RX11 368 "SilkMill$Store" "silkKept" "I", Cond.fieldLink RX11 374 "SilkMill$Store" "waste" "I", Cond.fieldLink RX11 377 "SilkMill$Store" "silkThrown" "I", Cond.fieldLink RX11 321 "SilkMill" "shelved" "I", Cond.methodLink RX11 371 yX11_silkThatGrows, Cond.instanceMethod yX11_silkThatGrows, Cond.selects RX11 yX11_silkThatGrows yX11_silkThatGrows, Cond.initialized RX11, Cond.code yX11_silkThatGrows cX11_silkThatGrows 4 (some .int), Cond.fieldLink RX11 186 "SilkMill$Pot" "strand" "LSilkMill$Strand;", Cond.fieldLink RX11 242 "SilkMill$Strand" "silk" "I", Cond.methodLink RX11 134 yX11_potAt, Cond.instanceMethod yX11_potAt, Cond.selects RX11 yX11_potAt yX11_potAt, Cond.code yX11_potAt cX11_potAt 2 (some (.object "SilkMill$Pot"))]
def wsX11_count_r2 : List Cond := [Cond.fieldLink RX11 21 "SilkMill" "pots" "[LSilkMill$Pot;"]
def wsX11_count : List Cond := .code yX11_count cX11_count 2 (some .int) :: ((wsX11_count_r1 ++ wsX11_count_r2) ++ wsX110 ++ wsX80 ++ wsX100 ++ wsX40 ++ wsX90)
def wsX12_init_r1 : List Cond := [Cond.methodLink RX12 1 objectInit, Cond.instanceMethod objectInit, Cond.code objectInit ⟨#[0xb1]⟩ 1 none, Cond.arrayClass .int, Cond.fieldLink RX12 7 "SilkMillModel" "lotMany" "[I", Cond.fieldLink RX12 13 "SilkMillModel" "lotSeed" "[I", Cond.fieldLink RX12 16 "SilkMillModel" "lotBase" "[I", Cond.fieldLink RX12 19 "SilkMillModel" "lotLong" "[I", Cond.fieldLink RX12 22 "SilkMillModel" "lotFrail" "[I", Cond.fieldLink RX12 25 "SilkMillModel" "stand" "[I", Cond.fieldLink RX12 28 "SilkMillModel" "place" "[I", Cond.fieldLink RX12 31 "SilkMillModel" "potOf" "[I", Cond.fieldLink RX12 34 "SilkMillModel" "thin" "[I", Cond.fieldLink RX12 37 "SilkMillModel" "aim" "[I", Cond.fieldLink RX12 40 "SilkMillModel" "find" "[I", Cond.fieldLink RX12 43 "SilkMillModel" "search" "[I", Cond.fieldLink RX12 46 "SilkMillModel" "stop" "[I", Cond.fieldLink RX12 49 "SilkMillModel" "drawnEver" "[I", Cond.fieldLink RX12 52 "SilkMillModel" "ticksEver" "[I", Cond.fieldLink RX12 55 "SilkMillModel" "rowOf" "[I", Cond.fieldLink RX12 58 "SilkMillModel" "rowMany" "[I", Cond.fieldLink RX12 61 "SilkMillModel" "rules" "[I", Cond.fieldLink RX12 64 "SilkMillModel" "act" "[I", Cond.fieldLink RX12 67 "SilkMillModel" "actNumber" "[I"]
def wsX12_init_r2 : List Cond := [Cond.fieldLink RX12 70 "SilkMillModel" "conditions" "[I", Cond.fieldLink RX12 73 "SilkMillModel" "field" "[I", Cond.fieldLink RX12 76 "SilkMillModel" "rel" "[I", Cond.fieldLink RX12 79 "SilkMillModel" "than" "[I", Cond.arrayClass .byte, Cond.fieldLink RX12 82 "SilkMillModel" "tape" "[B", Cond.fieldLink RX12 86 "SilkMillModel" "faultPlace" "I", Cond.fieldLink RX12 90 "SilkMillModel" "metreEnds" "[I", Cond.constant RX12 93 (158400), Cond.fieldLink RX12 94 "SilkMillModel" "drawn" "[I", Cond.fieldLink RX12 97 "SilkMillModel" "grown" "[I", Cond.fieldLink RX12 100 "SilkMillModel" "firstMetre" "[I", Cond.fieldLink RX12 103 "SilkMillModel" "skeinPot" "[I", Cond.fieldLink RX12 106 "SilkMillModel" "skeinDay" "[I", Cond.fieldLink RX12 109 "SilkMillModel" "skeinAim" "[I", Cond.fieldLink RX12 112 "SilkMillModel" "skeinGrade" "[I", Cond.arrayClass .boolean, Cond.fieldLink RX12 115 "SilkMillModel" "isSold" "[Z", Cond.fieldLink RX12 119 "SilkMillModel" "price" "[I", Cond.fieldLink RX12 122 "SilkMillModel" "draw" "[I", Cond.fieldLink RX12 125 "SilkMillModel" "isLaid" "[Z", Cond.fieldLink RX12 128 "SilkMillModel" "laid" "[I", Cond.fieldLink RX12 131 "SilkMillModel" "laidValue" "[I", Cond.fieldLink RX12 134 "SilkMillModel" "wordMany" "[I"]
def wsX12_init_r3 : List Cond := [Cond.fieldLink RX12 137 "SilkMillModel" "wordOf" "[I", Cond.fieldLink RX12 140 "SilkMillModel" "asked" "[I", Cond.fieldLink RX12 143 "SilkMillModel" "askedWeight" "[I", Cond.fieldLink RX12 146 "SilkMillModel" "askedPrice" "[I", Cond.fieldLink RX12 149 "SilkMillModel" "isMixed" "[Z", Cond.fieldLink RX12 152 "SilkMillModel" "faultOf" "[I", Cond.fieldLink RX12 155 "SilkMillModel" "faultAmount" "[I", Cond.fieldLink RX12 158 "SilkMillModel" "faultDay" "[I"]
def wsX12_init : List Cond := .code yX12_init cX12_init 2 none :: ((wsX12_init_r1 ++ (wsX12_init_r2 ++ wsX12_init_r3)) ++ wsX120)
def wsX12_thrown : List Cond := .code yX12_thrown cX12_thrown 1 (some .int) :: ([.fieldLink RX12 161 "SilkMillModel" "thrown" "I"] ++ wsX120)
def wsX12_within : List Cond := .code yX12_within cX12_within 3 (some .boolean) :: ([])
def wsX12_next : List Cond := .code yX12_next cX12_next 1 (some .int) :: ([.constant RX12 164 (1103515245)])
def wsX12_part : List Cond := .code yX12_part cX12_part 2 (some .int) :: ([])
def wsX12_lot : List Cond := .code yX12_lot cX12_lot 6 (some .int) :: ([.fieldLink RX12 161 "SilkMillModel" "thrown" "I", .fieldLink RX12 165 "SilkMillModel" "lots" "I", .fieldLink RX12 7 "SilkMillModel" "lotMany" "[I", .fieldLink RX12 13 "SilkMillModel" "lotSeed" "[I", .fieldLink RX12 16 "SilkMillModel" "lotBase" "[I", .fieldLink RX12 19 "SilkMillModel" "lotLong" "[I", .fieldLink RX12 22 "SilkMillModel" "lotFrail" "[I", .methodLink RX12 168 yX12_within, .static yX12_within, .initialized RX12, .code yX12_within cX12_within 3 (some .boolean)] ++ wsX120)
def wsX12_isCocoon : List Cond := .code yX12_isCocoon cX12_isCocoon 3 (some .boolean) :: ([.fieldLink RX12 165 "SilkMillModel" "lots" "I", .fieldLink RX12 7 "SilkMillModel" "lotMany" "[I", .methodLink RX12 168 yX12_within, .static yX12_within, .initialized RX12, .code yX12_within cX12_within 3 (some .boolean)] ++ wsX120)
def wsX12_lengthOf : List Cond := .code yX12_lengthOf cX12_lengthOf 4 (some .int) :: ([.fieldLink RX12 19 "SilkMillModel" "lotLong" "[I", .fieldLink RX12 13 "SilkMillModel" "lotSeed" "[I", .methodLink RX12 172 yX12_next, .static yX12_next, .initialized RX12, .code yX12_next cX12_next 1 (some .int), .constant RX12 164 (1103515245), .methodLink RX12 176 yX12_part, .static yX12_part, .code yX12_part cX12_part 2 (some .int)] ++ wsX120)
def wsX12_fineOf : List Cond := .code yX12_fineOf cX12_fineOf 6 (some .int) :: ([.fieldLink RX12 13 "SilkMillModel" "lotSeed" "[I", .fieldLink RX12 16 "SilkMillModel" "lotBase" "[I", .fieldLink RX12 34 "SilkMillModel" "thin" "[I", .methodLink RX12 172 yX12_next, .static yX12_next, .initialized RX12, .code yX12_next cX12_next 1 (some .int), .constant RX12 164 (1103515245), .methodLink RX12 176 yX12_part, .static yX12_part, .code yX12_part cX12_part 2 (some .int), .methodLink RX12 180 yX12_lengthOf, .instanceMethod yX12_lengthOf, .selects RX12 yX12_lengthOf yX12_lengthOf, .code yX12_lengthOf cX12_lengthOf 4 (some .int), .fieldLink RX12 19 "SilkMillModel" "lotLong" "[I"] ++ wsX120)
def wsX12_breaks : List Cond := .code yX12_breaks cX12_breaks 4 (some .boolean) :: ([.fieldLink RX12 13 "SilkMillModel" "lotSeed" "[I", .fieldLink RX12 22 "SilkMillModel" "lotFrail" "[I", .methodLink RX12 172 yX12_next, .static yX12_next, .initialized RX12, .code yX12_next cX12_next 1 (some .int), .constant RX12 164 (1103515245), .methodLink RX12 176 yX12_part, .static yX12_part, .code yX12_part cX12_part 2 (some .int)] ++ wsX120)
def wsX12_silk : List Cond := .code yX12_silk cX12_silk 6 (some .int) :: ([.methodLink RX12 183 yX12_fineOf, .instanceMethod yX12_fineOf, .selects RX12 yX12_fineOf yX12_fineOf, .initialized RX12, .code yX12_fineOf cX12_fineOf 6 (some .int), .fieldLink RX12 13 "SilkMillModel" "lotSeed" "[I", .fieldLink RX12 16 "SilkMillModel" "lotBase" "[I", .fieldLink RX12 34 "SilkMillModel" "thin" "[I", .methodLink RX12 172 yX12_next, .static yX12_next, .code yX12_next cX12_next 1 (some .int), .constant RX12 164 (1103515245), .methodLink RX12 176 yX12_part, .static yX12_part, .code yX12_part cX12_part 2 (some .int), .methodLink RX12 180 yX12_lengthOf, .instanceMethod yX12_lengthOf, .selects RX12 yX12_lengthOf yX12_lengthOf, .code yX12_lengthOf cX12_lengthOf 4 (some .int), .fieldLink RX12 19 "SilkMillModel" "lotLong" "[I"] ++ wsX120)
def wsX12_cocoon_r1 : List Cond := [Cond.fieldLink RX12 161 "SilkMillModel" "thrown" "I", Cond.fieldLink RX12 25 "SilkMillModel" "stand" "[I", Cond.fieldLink RX12 28 "SilkMillModel" "place" "[I", Cond.fieldLink RX12 31 "SilkMillModel" "potOf" "[I", Cond.methodLink RX12 186 yX12_isCocoon, Cond.instanceMethod yX12_isCocoon, Cond.selects RX12 yX12_isCocoon yX12_isCocoon, Cond.initialized RX12, Cond.code yX12_isCocoon cX12_isCocoon 3 (some .boolean), Cond.fieldLink RX12 165 "SilkMillModel" "lots" "I", Cond.fieldLink RX12 7 "SilkMillModel" "lotMany" "[I", Cond.methodLink RX12 168 yX12_within, Cond.static yX12_within, Cond.code yX12_within cX12_within 3 (some .boolean), Cond.methodLink RX12 180 yX12_lengthOf, Cond.instanceMethod yX12_lengthOf, Cond.selects RX12 yX12_lengthOf yX12_lengthOf, Cond.code yX12_lengthOf cX12_lengthOf 4 (some .int), Cond.fieldLink RX12 19 "SilkMillModel" "lotLong" "[I", Cond.fieldLink RX12 13 "SilkMillModel" "lotSeed" "[I", Cond.methodLink RX12 172 yX12_next, Cond.static yX12_next, Cond.code yX12_next cX12_next 1 (some .int), Cond.constant RX12 164 (1103515245)]
def wsX12_cocoon_r2 : List Cond := [Cond.methodLink RX12 176 yX12_part, Cond.static yX12_part, Cond.code yX12_part cX12_part 2 (some .int), Cond.methodLink RX12 183 yX12_fineOf, Cond.instanceMethod yX12_fineOf, Cond.selects RX12 yX12_fineOf yX12_fineOf, Cond.code yX12_fineOf cX12_fineOf 6 (some .int), Cond.fieldLink RX12 16 "SilkMillModel" "lotBase" "[I", Cond.fieldLink RX12 34 "SilkMillModel" "thin" "[I", Cond.methodLink RX12 190 yX12_silk, Cond.instanceMethod yX12_silk, Cond.selects RX12 yX12_silk yX12_silk, Cond.code yX12_silk cX12_silk 6 (some .int)]
def wsX12_cocoon : List Cond := .code yX12_cocoon cX12_cocoon 5 (some .int) :: ((wsX12_cocoon_r1 ++ wsX12_cocoon_r2) ++ wsX120)
def wsX12_fineness_r1 : List Cond := [Cond.fieldLink RX12 161 "SilkMillModel" "thrown" "I", Cond.methodLink RX12 186 yX12_isCocoon, Cond.instanceMethod yX12_isCocoon, Cond.selects RX12 yX12_isCocoon yX12_isCocoon, Cond.initialized RX12, Cond.code yX12_isCocoon cX12_isCocoon 3 (some .boolean), Cond.fieldLink RX12 165 "SilkMillModel" "lots" "I", Cond.fieldLink RX12 7 "SilkMillModel" "lotMany" "[I", Cond.methodLink RX12 168 yX12_within, Cond.static yX12_within, Cond.code yX12_within cX12_within 3 (some .boolean), Cond.methodLink RX12 180 yX12_lengthOf, Cond.instanceMethod yX12_lengthOf, Cond.selects RX12 yX12_lengthOf yX12_lengthOf, Cond.code yX12_lengthOf cX12_lengthOf 4 (some .int), Cond.fieldLink RX12 19 "SilkMillModel" "lotLong" "[I", Cond.fieldLink RX12 13 "SilkMillModel" "lotSeed" "[I", Cond.methodLink RX12 172 yX12_next, Cond.static yX12_next, Cond.code yX12_next cX12_next 1 (some .int), Cond.constant RX12 164 (1103515245), Cond.methodLink RX12 176 yX12_part, Cond.static yX12_part, Cond.code yX12_part cX12_part 2 (some .int)]
def wsX12_fineness_r2 : List Cond := [Cond.methodLink RX12 183 yX12_fineOf, Cond.instanceMethod yX12_fineOf, Cond.selects RX12 yX12_fineOf yX12_fineOf, Cond.code yX12_fineOf cX12_fineOf 6 (some .int), Cond.fieldLink RX12 16 "SilkMillModel" "lotBase" "[I", Cond.fieldLink RX12 34 "SilkMillModel" "thin" "[I"]
def wsX12_fineness : List Cond := .code yX12_fineness cX12_fineness 5 (some .int) :: ((wsX12_fineness_r1 ++ wsX12_fineness_r2) ++ wsX120)
def wsX12_test_r1 : List Cond := [Cond.fieldLink RX12 161 "SilkMillModel" "thrown" "I", Cond.fieldLink RX12 165 "SilkMillModel" "lots" "I", Cond.arrayClass .boolean, Cond.fieldLink RX12 7 "SilkMillModel" "lotMany" "[I", Cond.fieldLink RX12 25 "SilkMillModel" "stand" "[I", Cond.methodLink RX12 168 yX12_within, Cond.static yX12_within, Cond.initialized RX12, Cond.code yX12_within cX12_within 3 (some .boolean), Cond.methodLink RX12 172 yX12_next, Cond.static yX12_next, Cond.code yX12_next cX12_next 1 (some .int), Cond.constant RX12 164 (1103515245), Cond.methodLink RX12 176 yX12_part, Cond.static yX12_part, Cond.code yX12_part cX12_part 2 (some .int), Cond.methodLink RX12 180 yX12_lengthOf, Cond.instanceMethod yX12_lengthOf, Cond.selects RX12 yX12_lengthOf yX12_lengthOf, Cond.code yX12_lengthOf cX12_lengthOf 4 (some .int), Cond.fieldLink RX12 19 "SilkMillModel" "lotLong" "[I", Cond.fieldLink RX12 13 "SilkMillModel" "lotSeed" "[I", Cond.methodLink RX12 194 yX12_breaks, Cond.instanceMethod yX12_breaks]
def wsX12_test_r2 : List Cond := [Cond.selects RX12 yX12_breaks yX12_breaks, Cond.code yX12_breaks cX12_breaks 4 (some .boolean), Cond.fieldLink RX12 22 "SilkMillModel" "lotFrail" "[I"]
def wsX12_test : List Cond := .code yX12_test cX12_test 13 (some .int) :: ((wsX12_test_r1 ++ wsX12_test_r2) ++ wsX120)
def wsX12_pot : List Cond := .code yX12_pot cX12_pot 3 (some .int) :: ([.fieldLink RX12 161 "SilkMillModel" "thrown" "I", .fieldLink RX12 197 "SilkMillModel" "pots" "I", .fieldLink RX12 37 "SilkMillModel" "aim" "[I", .fieldLink RX12 40 "SilkMillModel" "find" "[I", .methodLink RX12 168 yX12_within, .static yX12_within, .initialized RX12, .code yX12_within cX12_within 3 (some .boolean)] ++ wsX120)
def wsX12_isPot : List Cond := .code yX12_isPot cX12_isPot 2 (some .boolean) :: ([.fieldLink RX12 197 "SilkMillModel" "pots" "I", .methodLink RX12 168 yX12_within, .static yX12_within, .initialized RX12, .code yX12_within cX12_within 3 (some .boolean)] ++ wsX120)
def wsX12_target : List Cond := .code yX12_target cX12_target 3 (some .boolean) :: ([.fieldLink RX12 161 "SilkMillModel" "thrown" "I", .fieldLink RX12 37 "SilkMillModel" "aim" "[I", .methodLink RX12 200 yX12_isPot, .instanceMethod yX12_isPot, .selects RX12 yX12_isPot yX12_isPot, .initialized RX12, .code yX12_isPot cX12_isPot 2 (some .boolean), .fieldLink RX12 197 "SilkMillModel" "pots" "I", .methodLink RX12 168 yX12_within, .static yX12_within, .code yX12_within cX12_within 3 (some .boolean)] ++ wsX120)
def wsX12_at : List Cond := .code yX12_at cX12_at 4 (some .int) :: ([.fieldLink RX12 55 "SilkMillModel" "rowOf" "[I"] ++ wsX120)
def wsX12_many : List Cond := .code yX12_many cX12_many 3 (some .int) :: ([.fieldLink RX12 58 "SilkMillModel" "rowMany" "[I"] ++ wsX120)
def wsX12_comes : List Cond := .code yX12_comes cX12_comes 7 none :: ([.fieldLink RX12 58 "SilkMillModel" "rowMany" "[I", .fieldLink RX12 55 "SilkMillModel" "rowOf" "[I", .fieldLink RX12 25 "SilkMillModel" "stand" "[I", .fieldLink RX12 31 "SilkMillModel" "potOf" "[I"] ++ wsX120)
def wsX12_goes : List Cond := .code yX12_goes cX12_goes 7 (some .int) :: ([.fieldLink RX12 55 "SilkMillModel" "rowOf" "[I", .fieldLink RX12 58 "SilkMillModel" "rowMany" "[I"] ++ wsX120)
def wsX12_fill : List Cond := .code yX12_fill cX12_fill 6 (some .boolean) :: ([.fieldLink RX12 161 "SilkMillModel" "thrown" "I", .fieldLink RX12 165 "SilkMillModel" "lots" "I", .fieldLink RX12 7 "SilkMillModel" "lotMany" "[I", .fieldLink RX12 25 "SilkMillModel" "stand" "[I", .methodLink RX12 200 yX12_isPot, .instanceMethod yX12_isPot, .selects RX12 yX12_isPot yX12_isPot, .initialized RX12, .code yX12_isPot cX12_isPot 2 (some .boolean), .fieldLink RX12 197 "SilkMillModel" "pots" "I", .methodLink RX12 168 yX12_within, .static yX12_within, .code yX12_within cX12_within 3 (some .boolean), .methodLink RX12 204 yX12_many, .instanceMethod yX12_many, .selects RX12 yX12_many yX12_many, .code yX12_many cX12_many 3 (some .int), .fieldLink RX12 58 "SilkMillModel" "rowMany" "[I", .methodLink RX12 207 yX12_comes, .instanceMethod yX12_comes, .selects RX12 yX12_comes yX12_comes, .code yX12_comes cX12_comes 7 none, .fieldLink RX12 55 "SilkMillModel" "rowOf" "[I", .fieldLink RX12 31 "SilkMillModel" "potOf" "[I"] ++ wsX120)
def wsX12_feed : List Cond := .code yX12_feed cX12_feed 8 (some .int) :: ([.fieldLink RX12 161 "SilkMillModel" "thrown" "I", .fieldLink RX12 211 "SilkMillModel" "taped" "I", .fieldLink RX12 82 "SilkMillModel" "tape" "[B"] ++ wsX120)
def wsX12_end : List Cond := .code yX12_end cX12_end 2 (some .int) :: ([.fieldLink RX12 161 "SilkMillModel" "thrown" "I", .fieldLink RX12 211 "SilkMillModel" "taped" "I", .methodLink RX12 168 yX12_within, .static yX12_within, .initialized RX12, .code yX12_within cX12_within 3 (some .boolean)] ++ wsX120)
def wsX12_byteAt : List Cond := .code yX12_byteAt cX12_byteAt 2 (some .int) :: ([.fieldLink RX12 211 "SilkMillModel" "taped" "I", .fieldLink RX12 82 "SilkMillModel" "tape" "[B"] ++ wsX120)
def wsX12_token : List Cond := .code yX12_token cX12_token 2 none :: ([.fieldLink RX12 214 "SilkMillModel" "to" "I", .fieldLink RX12 217 "SilkMillModel" "from" "I", .fieldLink RX12 211 "SilkMillModel" "taped" "I", .fieldLink RX12 223 "SilkMillModel" "kind" "I", .fieldLink RX12 226 "SilkMillModel" "value" "I", .methodLink RX12 220 yX12_byteAt, .instanceMethod yX12_byteAt, .selects RX12 yX12_byteAt yX12_byteAt, .initialized RX12, .code yX12_byteAt cX12_byteAt 2 (some .int), .fieldLink RX12 82 "SilkMillModel" "tape" "[B", .methodLink RX12 168 yX12_within, .static yX12_within, .code yX12_within cX12_within 3 (some .boolean)] ++ wsX120)
def wsX12_is_r1 : List Cond := [Cond.fieldLink RX12 229 "SilkMillModel" "faultKind" "I", Cond.fieldLink RX12 214 "SilkMillModel" "to" "I", Cond.fieldLink RX12 217 "SilkMillModel" "from" "I", Cond.methodLink RX12 232 yJ0_length_8abf5, Cond.instanceMethod yJ0_length_8abf5, Cond.selects RJ0 yJ0_length_8abf5 yJ0_length_8abf5, Cond.initialized RJ0, Cond.code yJ0_length_8abf5 cJ0_length_8abf5 1 (some .int), Cond.fieldLink RJ0 9 "java/lang/String" "value" "[B", Cond.methodLink RJ0 335 yJ0_coder_7d493, Cond.instanceMethod yJ0_coder_7d493, Cond.selects RJ0 yJ0_coder_7d493 yJ0_coder_7d493, Cond.code yJ0_coder_7d493 cJ0_coder_7d493 1 (some .byte), Cond.fieldLink RJ0 38 "java/lang/String" "COMPACT_STRINGS" "Z", Cond.fieldLink RJ0 15 "java/lang/String" "coder" "B", Cond.methodLink RX12 220 yX12_byteAt, Cond.instanceMethod yX12_byteAt, Cond.selects RX12 yX12_byteAt yX12_byteAt, Cond.initialized RX12, Cond.code yX12_byteAt cX12_byteAt 2 (some .int), Cond.fieldLink RX12 211 "SilkMillModel" "taped" "I", Cond.fieldLink RX12 82 "SilkMillModel" "tape" "[B", Cond.methodLink RX12 238 yJ0_charAt_5068e, Cond.instanceMethod yJ0_charAt_5068e]
def wsX12_is_r2 : List Cond := [Cond.selects RJ0 yJ0_charAt_5068e yJ0_charAt_5068e, Cond.code yJ0_charAt_5068e cJ0_charAt_5068e 2 (some .char), Cond.methodLink RJ0 492 yJ0_isLatin1_aae02, Cond.instanceMethod yJ0_isLatin1_aae02, Cond.selects RJ0 yJ0_isLatin1_aae02 yJ0_isLatin1_aae02, Cond.code yJ0_isLatin1_aae02 cJ0_isLatin1_aae02 1 (some .boolean), Cond.methodLink RJ0 495 yJ1_charAt_3b067, Cond.static yJ1_charAt_3b067, Cond.initialized RJ1, Cond.code yJ1_charAt_3b067 cJ1_charAt_3b067 2 (some .char), Cond.methodLink RJ1 9 yJ0_checkIndex_df160, Cond.static yJ0_checkIndex_df160, Cond.code yJ0_checkIndex_df160 cJ0_checkIndex_df160 2 none, Cond.fieldLink RJ0 1053 "jdk/internal/util/Preconditions" "SIOOBE_FORMATTER" "Ljava/util/function/BiFunction;", Cond.methodLink RJ0 1059 yJ3_checkIndex_8e157, Cond.static yJ3_checkIndex_8e157, Cond.initialized RJ3, Cond.code yJ3_checkIndex_8e157 cJ3_checkIndex_8e157 3 (some .int), Cond.methodLink RJ0 498 yJ2_charAt_3b067, Cond.static yJ2_charAt_3b067, Cond.initialized RJ2, Cond.code yJ2_charAt_3b067 cJ2_charAt_3b067 2 (some .char), Cond.methodLink RJ2 67 yJ2_checkIndex_2214a, Cond.static yJ2_checkIndex_2214a]
def wsX12_is_r3 : List Cond := [Cond.code yJ2_checkIndex_2214a cJ2_checkIndex_2214a 2 none, Cond.methodLink RJ2 48 yJ2_length_9d52b, Cond.static yJ2_length_9d52b, Cond.code yJ2_length_9d52b cJ2_length_9d52b 1 (some .int), Cond.methodLink RJ2 414 yJ0_checkIndex_df160, Cond.methodLink RJ2 71 yJ2_getChar_3b067, Cond.static yJ2_getChar_3b067, Cond.code yJ2_getChar_3b067 cJ2_getChar_3b067 2 (some .char), Cond.fieldLink RJ2 44 "java/lang/StringUTF16" "$assertionsDisabled" "Z", Cond.fieldLink RJ2 59 "java/lang/StringUTF16" "HI_BYTE_SHIFT" "I", Cond.fieldLink RJ2 63 "java/lang/StringUTF16" "LO_BYTE_SHIFT" "I"]
def wsX12_is : List Cond := .code yX12_is cX12_is 4 (some .boolean) :: ((wsX12_is_r1 ++ (wsX12_is_r2 ++ wsX12_is_r3)) ++ wsX120)
def wsX12_wrong : List Cond := .code yX12_wrong cX12_wrong 2 (some .boolean) :: ([.fieldLink RX12 229 "SilkMillModel" "faultKind" "I", .fieldLink RX12 217 "SilkMillModel" "from" "I", .fieldLink RX12 86 "SilkMillModel" "faultPlace" "I"] ++ wsX120)
def wsX12_must_r1 : List Cond := [Cond.methodLink RX12 242 yX12_is, Cond.instanceMethod yX12_is, Cond.selects RX12 yX12_is yX12_is, Cond.initialized RX12, Cond.code yX12_is cX12_is 4 (some .boolean), Cond.fieldLink RX12 229 "SilkMillModel" "faultKind" "I", Cond.fieldLink RX12 214 "SilkMillModel" "to" "I", Cond.fieldLink RX12 217 "SilkMillModel" "from" "I", Cond.methodLink RX12 232 yJ0_length_8abf5, Cond.instanceMethod yJ0_length_8abf5, Cond.selects RJ0 yJ0_length_8abf5 yJ0_length_8abf5, Cond.initialized RJ0, Cond.code yJ0_length_8abf5 cJ0_length_8abf5 1 (some .int), Cond.fieldLink RJ0 9 "java/lang/String" "value" "[B", Cond.methodLink RJ0 335 yJ0_coder_7d493, Cond.instanceMethod yJ0_coder_7d493, Cond.selects RJ0 yJ0_coder_7d493 yJ0_coder_7d493, Cond.code yJ0_coder_7d493 cJ0_coder_7d493 1 (some .byte), Cond.fieldLink RJ0 38 "java/lang/String" "COMPACT_STRINGS" "Z", Cond.fieldLink RJ0 15 "java/lang/String" "coder" "B", Cond.methodLink RX12 220 yX12_byteAt, Cond.instanceMethod yX12_byteAt, Cond.selects RX12 yX12_byteAt yX12_byteAt, Cond.code yX12_byteAt cX12_byteAt 2 (some .int)]
def wsX12_must_r2 : List Cond := [Cond.fieldLink RX12 211 "SilkMillModel" "taped" "I", Cond.fieldLink RX12 82 "SilkMillModel" "tape" "[B", Cond.methodLink RX12 238 yJ0_charAt_5068e, Cond.instanceMethod yJ0_charAt_5068e, Cond.selects RJ0 yJ0_charAt_5068e yJ0_charAt_5068e, Cond.code yJ0_charAt_5068e cJ0_charAt_5068e 2 (some .char), Cond.methodLink RJ0 492 yJ0_isLatin1_aae02, Cond.instanceMethod yJ0_isLatin1_aae02, Cond.selects RJ0 yJ0_isLatin1_aae02 yJ0_isLatin1_aae02, Cond.code yJ0_isLatin1_aae02 cJ0_isLatin1_aae02 1 (some .boolean), Cond.methodLink RJ0 495 yJ1_charAt_3b067, Cond.static yJ1_charAt_3b067, Cond.initialized RJ1, Cond.code yJ1_charAt_3b067 cJ1_charAt_3b067 2 (some .char), Cond.methodLink RJ1 9 yJ0_checkIndex_df160, Cond.static yJ0_checkIndex_df160, Cond.code yJ0_checkIndex_df160 cJ0_checkIndex_df160 2 none, Cond.fieldLink RJ0 1053 "jdk/internal/util/Preconditions" "SIOOBE_FORMATTER" "Ljava/util/function/BiFunction;", Cond.methodLink RJ0 1059 yJ3_checkIndex_8e157, Cond.static yJ3_checkIndex_8e157, Cond.initialized RJ3, Cond.code yJ3_checkIndex_8e157 cJ3_checkIndex_8e157 3 (some .int), Cond.methodLink RJ0 498 yJ2_charAt_3b067, Cond.static yJ2_charAt_3b067]
def wsX12_must_r3 : List Cond := [Cond.initialized RJ2, Cond.code yJ2_charAt_3b067 cJ2_charAt_3b067 2 (some .char), Cond.methodLink RJ2 67 yJ2_checkIndex_2214a, Cond.static yJ2_checkIndex_2214a, Cond.code yJ2_checkIndex_2214a cJ2_checkIndex_2214a 2 none, Cond.methodLink RJ2 48 yJ2_length_9d52b, Cond.static yJ2_length_9d52b, Cond.code yJ2_length_9d52b cJ2_length_9d52b 1 (some .int), Cond.methodLink RJ2 414 yJ0_checkIndex_df160, Cond.methodLink RJ2 71 yJ2_getChar_3b067, Cond.static yJ2_getChar_3b067, Cond.code yJ2_getChar_3b067 cJ2_getChar_3b067 2 (some .char), Cond.fieldLink RJ2 44 "java/lang/StringUTF16" "$assertionsDisabled" "Z", Cond.fieldLink RJ2 59 "java/lang/StringUTF16" "HI_BYTE_SHIFT" "I", Cond.fieldLink RJ2 63 "java/lang/StringUTF16" "LO_BYTE_SHIFT" "I", Cond.methodLink RX12 246 yX12_wrong, Cond.instanceMethod yX12_wrong, Cond.selects RX12 yX12_wrong yX12_wrong, Cond.code yX12_wrong cX12_wrong 2 (some .boolean), Cond.fieldLink RX12 86 "SilkMillModel" "faultPlace" "I", Cond.methodLink RX12 249 yX12_token, Cond.instanceMethod yX12_token, Cond.selects RX12 yX12_token yX12_token, Cond.code yX12_token cX12_token 2 none]
def wsX12_must_r4 : List Cond := [Cond.fieldLink RX12 223 "SilkMillModel" "kind" "I", Cond.fieldLink RX12 226 "SilkMillModel" "value" "I", Cond.methodLink RX12 168 yX12_within, Cond.static yX12_within, Cond.code yX12_within cX12_within 3 (some .boolean)]
def wsX12_must : List Cond := .code yX12_must cX12_must 2 (some .boolean) :: ((wsX12_must_r1 ++ (wsX12_must_r2 ++ (wsX12_must_r3 ++ wsX12_must_r4))) ++ wsX120)
def wsX12_which_r1 : List Cond := [Cond.fieldLink RX12 223 "SilkMillModel" "kind" "I", Cond.fieldLink RX12 229 "SilkMillModel" "faultKind" "I", Cond.fieldLink RX12 214 "SilkMillModel" "to" "I", Cond.fieldLink RX12 217 "SilkMillModel" "from" "I", Cond.methodLink RX12 232 yJ0_length_8abf5, Cond.instanceMethod yJ0_length_8abf5, Cond.selects RJ0 yJ0_length_8abf5 yJ0_length_8abf5, Cond.initialized RJ0, Cond.code yJ0_length_8abf5 cJ0_length_8abf5 1 (some .int), Cond.fieldLink RJ0 9 "java/lang/String" "value" "[B", Cond.methodLink RJ0 335 yJ0_coder_7d493, Cond.instanceMethod yJ0_coder_7d493, Cond.selects RJ0 yJ0_coder_7d493 yJ0_coder_7d493, Cond.code yJ0_coder_7d493 cJ0_coder_7d493 1 (some .byte), Cond.fieldLink RJ0 38 "java/lang/String" "COMPACT_STRINGS" "Z", Cond.fieldLink RJ0 15 "java/lang/String" "coder" "B", Cond.methodLink RX12 238 yJ0_charAt_5068e, Cond.instanceMethod yJ0_charAt_5068e, Cond.selects RJ0 yJ0_charAt_5068e yJ0_charAt_5068e, Cond.code yJ0_charAt_5068e cJ0_charAt_5068e 2 (some .char), Cond.methodLink RJ0 492 yJ0_isLatin1_aae02, Cond.instanceMethod yJ0_isLatin1_aae02, Cond.selects RJ0 yJ0_isLatin1_aae02 yJ0_isLatin1_aae02, Cond.code yJ0_isLatin1_aae02 cJ0_isLatin1_aae02 1 (some .boolean)]
def wsX12_which_r2 : List Cond := [Cond.methodLink RJ0 495 yJ1_charAt_3b067, Cond.static yJ1_charAt_3b067, Cond.initialized RJ1, Cond.code yJ1_charAt_3b067 cJ1_charAt_3b067 2 (some .char), Cond.methodLink RJ1 9 yJ0_checkIndex_df160, Cond.static yJ0_checkIndex_df160, Cond.code yJ0_checkIndex_df160 cJ0_checkIndex_df160 2 none, Cond.fieldLink RJ0 1053 "jdk/internal/util/Preconditions" "SIOOBE_FORMATTER" "Ljava/util/function/BiFunction;", Cond.methodLink RJ0 1059 yJ3_checkIndex_8e157, Cond.static yJ3_checkIndex_8e157, Cond.initialized RJ3, Cond.code yJ3_checkIndex_8e157 cJ3_checkIndex_8e157 3 (some .int), Cond.methodLink RJ0 498 yJ2_charAt_3b067, Cond.static yJ2_charAt_3b067, Cond.initialized RJ2, Cond.code yJ2_charAt_3b067 cJ2_charAt_3b067 2 (some .char), Cond.methodLink RJ2 67 yJ2_checkIndex_2214a, Cond.static yJ2_checkIndex_2214a, Cond.code yJ2_checkIndex_2214a cJ2_checkIndex_2214a 2 none, Cond.methodLink RJ2 48 yJ2_length_9d52b, Cond.static yJ2_length_9d52b, Cond.code yJ2_length_9d52b cJ2_length_9d52b 1 (some .int), Cond.methodLink RJ2 414 yJ0_checkIndex_df160, Cond.methodLink RJ2 71 yJ2_getChar_3b067]
def wsX12_which_r3 : List Cond := [Cond.static yJ2_getChar_3b067, Cond.code yJ2_getChar_3b067 cJ2_getChar_3b067 2 (some .char), Cond.fieldLink RJ2 44 "java/lang/StringUTF16" "$assertionsDisabled" "Z", Cond.fieldLink RJ2 59 "java/lang/StringUTF16" "HI_BYTE_SHIFT" "I", Cond.fieldLink RJ2 63 "java/lang/StringUTF16" "LO_BYTE_SHIFT" "I", Cond.methodLink RX12 220 yX12_byteAt, Cond.instanceMethod yX12_byteAt, Cond.selects RX12 yX12_byteAt yX12_byteAt, Cond.initialized RX12, Cond.code yX12_byteAt cX12_byteAt 2 (some .int), Cond.fieldLink RX12 211 "SilkMillModel" "taped" "I", Cond.fieldLink RX12 82 "SilkMillModel" "tape" "[B"]
def wsX12_which : List Cond := .code yX12_which cX12_which 7 (some .int) :: ((wsX12_which_r1 ++ (wsX12_which_r2 ++ wsX12_which_r3)) ++ wsX120)
def wsX12_number : List Cond := .code yX12_number cX12_number 2 (some .int) :: ([.fieldLink RX12 223 "SilkMillModel" "kind" "I", .fieldLink RX12 226 "SilkMillModel" "value" "I", .methodLink RX12 246 yX12_wrong, .instanceMethod yX12_wrong, .selects RX12 yX12_wrong yX12_wrong, .initialized RX12, .code yX12_wrong cX12_wrong 2 (some .boolean), .fieldLink RX12 229 "SilkMillModel" "faultKind" "I", .fieldLink RX12 217 "SilkMillModel" "from" "I", .fieldLink RX12 86 "SilkMillModel" "faultPlace" "I", .methodLink RX12 249 yX12_token, .instanceMethod yX12_token, .selects RX12 yX12_token yX12_token, .code yX12_token cX12_token 2 none, .fieldLink RX12 214 "SilkMillModel" "to" "I", .fieldLink RX12 211 "SilkMillModel" "taped" "I", .methodLink RX12 220 yX12_byteAt, .instanceMethod yX12_byteAt, .selects RX12 yX12_byteAt yX12_byteAt, .code yX12_byteAt cX12_byteAt 2 (some .int), .fieldLink RX12 82 "SilkMillModel" "tape" "[B", .methodLink RX12 168 yX12_within, .static yX12_within, .code yX12_within cX12_within 3 (some .boolean)] ++ wsX120)
def wsX12_condition_r1 : List Cond := [Cond.fieldLink RX12 70 "SilkMillModel" "conditions" "[I", Cond.fieldLink RX12 73 "SilkMillModel" "field" "[I", Cond.fieldLink RX12 76 "SilkMillModel" "rel" "[I", Cond.fieldLink RX12 79 "SilkMillModel" "than" "[I", Cond.fieldLink RX12 229 "SilkMillModel" "faultKind" "I", Cond.methodLink RX12 254 yX12_which, Cond.instanceMethod yX12_which, Cond.selects RX12 yX12_which yX12_which, Cond.initialized RX12, Cond.code yX12_which cX12_which 7 (some .int), Cond.fieldLink RX12 223 "SilkMillModel" "kind" "I", Cond.fieldLink RX12 214 "SilkMillModel" "to" "I", Cond.fieldLink RX12 217 "SilkMillModel" "from" "I", Cond.methodLink RX12 232 yJ0_length_8abf5, Cond.instanceMethod yJ0_length_8abf5, Cond.selects RJ0 yJ0_length_8abf5 yJ0_length_8abf5, Cond.initialized RJ0, Cond.code yJ0_length_8abf5 cJ0_length_8abf5 1 (some .int), Cond.fieldLink RJ0 9 "java/lang/String" "value" "[B", Cond.methodLink RJ0 335 yJ0_coder_7d493, Cond.instanceMethod yJ0_coder_7d493, Cond.selects RJ0 yJ0_coder_7d493 yJ0_coder_7d493, Cond.code yJ0_coder_7d493 cJ0_coder_7d493 1 (some .byte), Cond.fieldLink RJ0 38 "java/lang/String" "COMPACT_STRINGS" "Z"]
def wsX12_condition_r2 : List Cond := [Cond.fieldLink RJ0 15 "java/lang/String" "coder" "B", Cond.methodLink RX12 238 yJ0_charAt_5068e, Cond.instanceMethod yJ0_charAt_5068e, Cond.selects RJ0 yJ0_charAt_5068e yJ0_charAt_5068e, Cond.code yJ0_charAt_5068e cJ0_charAt_5068e 2 (some .char), Cond.methodLink RJ0 492 yJ0_isLatin1_aae02, Cond.instanceMethod yJ0_isLatin1_aae02, Cond.selects RJ0 yJ0_isLatin1_aae02 yJ0_isLatin1_aae02, Cond.code yJ0_isLatin1_aae02 cJ0_isLatin1_aae02 1 (some .boolean), Cond.methodLink RJ0 495 yJ1_charAt_3b067, Cond.static yJ1_charAt_3b067, Cond.initialized RJ1, Cond.code yJ1_charAt_3b067 cJ1_charAt_3b067 2 (some .char), Cond.methodLink RJ1 9 yJ0_checkIndex_df160, Cond.static yJ0_checkIndex_df160, Cond.code yJ0_checkIndex_df160 cJ0_checkIndex_df160 2 none, Cond.fieldLink RJ0 1053 "jdk/internal/util/Preconditions" "SIOOBE_FORMATTER" "Ljava/util/function/BiFunction;", Cond.methodLink RJ0 1059 yJ3_checkIndex_8e157, Cond.static yJ3_checkIndex_8e157, Cond.initialized RJ3, Cond.code yJ3_checkIndex_8e157 cJ3_checkIndex_8e157 3 (some .int), Cond.methodLink RJ0 498 yJ2_charAt_3b067, Cond.static yJ2_charAt_3b067, Cond.initialized RJ2]
def wsX12_condition_r3 : List Cond := [Cond.code yJ2_charAt_3b067 cJ2_charAt_3b067 2 (some .char), Cond.methodLink RJ2 67 yJ2_checkIndex_2214a, Cond.static yJ2_checkIndex_2214a, Cond.code yJ2_checkIndex_2214a cJ2_checkIndex_2214a 2 none, Cond.methodLink RJ2 48 yJ2_length_9d52b, Cond.static yJ2_length_9d52b, Cond.code yJ2_length_9d52b cJ2_length_9d52b 1 (some .int), Cond.methodLink RJ2 414 yJ0_checkIndex_df160, Cond.methodLink RJ2 71 yJ2_getChar_3b067, Cond.static yJ2_getChar_3b067, Cond.code yJ2_getChar_3b067 cJ2_getChar_3b067 2 (some .char), Cond.fieldLink RJ2 44 "java/lang/StringUTF16" "$assertionsDisabled" "Z", Cond.fieldLink RJ2 59 "java/lang/StringUTF16" "HI_BYTE_SHIFT" "I", Cond.fieldLink RJ2 63 "java/lang/StringUTF16" "LO_BYTE_SHIFT" "I", Cond.methodLink RX12 220 yX12_byteAt, Cond.instanceMethod yX12_byteAt, Cond.selects RX12 yX12_byteAt yX12_byteAt, Cond.code yX12_byteAt cX12_byteAt 2 (some .int), Cond.fieldLink RX12 211 "SilkMillModel" "taped" "I", Cond.fieldLink RX12 82 "SilkMillModel" "tape" "[B", Cond.methodLink RX12 246 yX12_wrong, Cond.instanceMethod yX12_wrong, Cond.selects RX12 yX12_wrong yX12_wrong, Cond.code yX12_wrong cX12_wrong 2 (some .boolean)]
def wsX12_condition_r4 : List Cond := [Cond.fieldLink RX12 86 "SilkMillModel" "faultPlace" "I", Cond.methodLink RX12 249 yX12_token, Cond.instanceMethod yX12_token, Cond.selects RX12 yX12_token yX12_token, Cond.code yX12_token cX12_token 2 none, Cond.fieldLink RX12 226 "SilkMillModel" "value" "I", Cond.methodLink RX12 168 yX12_within, Cond.static yX12_within, Cond.code yX12_within cX12_within 3 (some .boolean), Cond.methodLink RX12 242 yX12_is, Cond.instanceMethod yX12_is, Cond.selects RX12 yX12_is yX12_is, Cond.code yX12_is cX12_is 4 (some .boolean), Cond.methodLink RX12 264 yX12_number, Cond.instanceMethod yX12_number, Cond.selects RX12 yX12_number yX12_number, Cond.code yX12_number cX12_number 2 (some .int)]
def wsX12_condition : List Cond := .code yX12_condition cX12_condition 4 (some .boolean) :: ((wsX12_condition_r1 ++ (wsX12_condition_r2 ++ (wsX12_condition_r3 ++ wsX12_condition_r4))) ++ wsX120)
def wsX12_rule_r1 : List Cond := [Cond.fieldLink RX12 61 "SilkMillModel" "rules" "[I", Cond.fieldLink RX12 70 "SilkMillModel" "conditions" "[I", Cond.fieldLink RX12 64 "SilkMillModel" "act" "[I", Cond.fieldLink RX12 67 "SilkMillModel" "actNumber" "[I", Cond.methodLink RX12 242 yX12_is, Cond.instanceMethod yX12_is, Cond.selects RX12 yX12_is yX12_is, Cond.initialized RX12, Cond.code yX12_is cX12_is 4 (some .boolean), Cond.fieldLink RX12 229 "SilkMillModel" "faultKind" "I", Cond.fieldLink RX12 214 "SilkMillModel" "to" "I", Cond.fieldLink RX12 217 "SilkMillModel" "from" "I", Cond.methodLink RX12 232 yJ0_length_8abf5, Cond.instanceMethod yJ0_length_8abf5, Cond.selects RJ0 yJ0_length_8abf5 yJ0_length_8abf5, Cond.initialized RJ0, Cond.code yJ0_length_8abf5 cJ0_length_8abf5 1 (some .int), Cond.fieldLink RJ0 9 "java/lang/String" "value" "[B", Cond.methodLink RJ0 335 yJ0_coder_7d493, Cond.instanceMethod yJ0_coder_7d493, Cond.selects RJ0 yJ0_coder_7d493 yJ0_coder_7d493, Cond.code yJ0_coder_7d493 cJ0_coder_7d493 1 (some .byte), Cond.fieldLink RJ0 38 "java/lang/String" "COMPACT_STRINGS" "Z", Cond.fieldLink RJ0 15 "java/lang/String" "coder" "B"]
def wsX12_rule_r2 : List Cond := [Cond.methodLink RX12 220 yX12_byteAt, Cond.instanceMethod yX12_byteAt, Cond.selects RX12 yX12_byteAt yX12_byteAt, Cond.code yX12_byteAt cX12_byteAt 2 (some .int), Cond.fieldLink RX12 211 "SilkMillModel" "taped" "I", Cond.fieldLink RX12 82 "SilkMillModel" "tape" "[B", Cond.methodLink RX12 238 yJ0_charAt_5068e, Cond.instanceMethod yJ0_charAt_5068e, Cond.selects RJ0 yJ0_charAt_5068e yJ0_charAt_5068e, Cond.code yJ0_charAt_5068e cJ0_charAt_5068e 2 (some .char), Cond.methodLink RJ0 492 yJ0_isLatin1_aae02, Cond.instanceMethod yJ0_isLatin1_aae02, Cond.selects RJ0 yJ0_isLatin1_aae02 yJ0_isLatin1_aae02, Cond.code yJ0_isLatin1_aae02 cJ0_isLatin1_aae02 1 (some .boolean), Cond.methodLink RJ0 495 yJ1_charAt_3b067, Cond.static yJ1_charAt_3b067, Cond.initialized RJ1, Cond.code yJ1_charAt_3b067 cJ1_charAt_3b067 2 (some .char), Cond.methodLink RJ1 9 yJ0_checkIndex_df160, Cond.static yJ0_checkIndex_df160, Cond.code yJ0_checkIndex_df160 cJ0_checkIndex_df160 2 none, Cond.fieldLink RJ0 1053 "jdk/internal/util/Preconditions" "SIOOBE_FORMATTER" "Ljava/util/function/BiFunction;", Cond.methodLink RJ0 1059 yJ3_checkIndex_8e157, Cond.static yJ3_checkIndex_8e157]
def wsX12_rule_r3 : List Cond := [Cond.initialized RJ3, Cond.code yJ3_checkIndex_8e157 cJ3_checkIndex_8e157 3 (some .int), Cond.methodLink RJ0 498 yJ2_charAt_3b067, Cond.static yJ2_charAt_3b067, Cond.initialized RJ2, Cond.code yJ2_charAt_3b067 cJ2_charAt_3b067 2 (some .char), Cond.methodLink RJ2 67 yJ2_checkIndex_2214a, Cond.static yJ2_checkIndex_2214a, Cond.code yJ2_checkIndex_2214a cJ2_checkIndex_2214a 2 none, Cond.methodLink RJ2 48 yJ2_length_9d52b, Cond.static yJ2_length_9d52b, Cond.code yJ2_length_9d52b cJ2_length_9d52b 1 (some .int), Cond.methodLink RJ2 414 yJ0_checkIndex_df160, Cond.methodLink RJ2 71 yJ2_getChar_3b067, Cond.static yJ2_getChar_3b067, Cond.code yJ2_getChar_3b067 cJ2_getChar_3b067 2 (some .char), Cond.fieldLink RJ2 44 "java/lang/StringUTF16" "$assertionsDisabled" "Z", Cond.fieldLink RJ2 59 "java/lang/StringUTF16" "HI_BYTE_SHIFT" "I", Cond.fieldLink RJ2 63 "java/lang/StringUTF16" "LO_BYTE_SHIFT" "I", Cond.methodLink RX12 254 yX12_which, Cond.instanceMethod yX12_which, Cond.selects RX12 yX12_which yX12_which, Cond.code yX12_which cX12_which 7 (some .int), Cond.fieldLink RX12 223 "SilkMillModel" "kind" "I"]
def wsX12_rule_r4 : List Cond := [Cond.methodLink RX12 246 yX12_wrong, Cond.instanceMethod yX12_wrong, Cond.selects RX12 yX12_wrong yX12_wrong, Cond.code yX12_wrong cX12_wrong 2 (some .boolean), Cond.fieldLink RX12 86 "SilkMillModel" "faultPlace" "I", Cond.methodLink RX12 249 yX12_token, Cond.instanceMethod yX12_token, Cond.selects RX12 yX12_token yX12_token, Cond.code yX12_token cX12_token 2 none, Cond.fieldLink RX12 226 "SilkMillModel" "value" "I", Cond.methodLink RX12 168 yX12_within, Cond.static yX12_within, Cond.code yX12_within cX12_within 3 (some .boolean), Cond.methodLink RX12 271 yX12_condition, Cond.instanceMethod yX12_condition, Cond.selects RX12 yX12_condition yX12_condition, Cond.code yX12_condition cX12_condition 4 (some .boolean), Cond.fieldLink RX12 73 "SilkMillModel" "field" "[I", Cond.fieldLink RX12 76 "SilkMillModel" "rel" "[I", Cond.fieldLink RX12 79 "SilkMillModel" "than" "[I", Cond.methodLink RX12 264 yX12_number, Cond.instanceMethod yX12_number, Cond.selects RX12 yX12_number yX12_number, Cond.code yX12_number cX12_number 2 (some .int)]
def wsX12_rule_r5 : List Cond := [Cond.methodLink RX12 278 yX12_must, Cond.instanceMethod yX12_must, Cond.selects RX12 yX12_must yX12_must, Cond.code yX12_must cX12_must 2 (some .boolean)]
def wsX12_rule : List Cond := .code yX12_rule cX12_rule 4 (some .boolean) :: ((wsX12_rule_r1 ++ (wsX12_rule_r2 ++ (wsX12_rule_r3 ++ (wsX12_rule_r4 ++ wsX12_rule_r5)))) ++ wsX120)
def wsX12_program_r1 : List Cond := [Cond.fieldLink RX12 161 "SilkMillModel" "thrown" "I", Cond.fieldLink RX12 229 "SilkMillModel" "faultKind" "I", Cond.fieldLink RX12 86 "SilkMillModel" "faultPlace" "I", Cond.fieldLink RX12 61 "SilkMillModel" "rules" "[I", Cond.fieldLink RX12 214 "SilkMillModel" "to" "I", Cond.fieldLink RX12 223 "SilkMillModel" "kind" "I", Cond.fieldLink RX12 211 "SilkMillModel" "taped" "I", Cond.fieldLink RX12 64 "SilkMillModel" "act" "[I", Cond.fieldLink RX12 67 "SilkMillModel" "actNumber" "[I", Cond.fieldLink RX12 70 "SilkMillModel" "conditions" "[I", Cond.fieldLink RX12 73 "SilkMillModel" "field" "[I", Cond.fieldLink RX12 76 "SilkMillModel" "rel" "[I", Cond.fieldLink RX12 79 "SilkMillModel" "than" "[I", Cond.methodLink RX12 200 yX12_isPot, Cond.instanceMethod yX12_isPot, Cond.selects RX12 yX12_isPot yX12_isPot, Cond.initialized RX12, Cond.code yX12_isPot cX12_isPot 2 (some .boolean), Cond.fieldLink RX12 197 "SilkMillModel" "pots" "I", Cond.methodLink RX12 168 yX12_within, Cond.static yX12_within, Cond.code yX12_within cX12_within 3 (some .boolean), Cond.methodLink RX12 249 yX12_token, Cond.instanceMethod yX12_token]
def wsX12_program_r2 : List Cond := [Cond.selects RX12 yX12_token yX12_token, Cond.code yX12_token cX12_token 2 none, Cond.fieldLink RX12 217 "SilkMillModel" "from" "I", Cond.fieldLink RX12 226 "SilkMillModel" "value" "I", Cond.methodLink RX12 220 yX12_byteAt, Cond.instanceMethod yX12_byteAt, Cond.selects RX12 yX12_byteAt yX12_byteAt, Cond.code yX12_byteAt cX12_byteAt 2 (some .int), Cond.fieldLink RX12 82 "SilkMillModel" "tape" "[B", Cond.methodLink RX12 283 yX12_rule, Cond.instanceMethod yX12_rule, Cond.selects RX12 yX12_rule yX12_rule, Cond.code yX12_rule cX12_rule 4 (some .boolean), Cond.methodLink RX12 242 yX12_is, Cond.instanceMethod yX12_is, Cond.selects RX12 yX12_is yX12_is, Cond.code yX12_is cX12_is 4 (some .boolean), Cond.methodLink RX12 232 yJ0_length_8abf5, Cond.instanceMethod yJ0_length_8abf5, Cond.selects RJ0 yJ0_length_8abf5 yJ0_length_8abf5, Cond.initialized RJ0, Cond.code yJ0_length_8abf5 cJ0_length_8abf5 1 (some .int), Cond.fieldLink RJ0 9 "java/lang/String" "value" "[B", Cond.methodLink RJ0 335 yJ0_coder_7d493]
def wsX12_program_r3 : List Cond := [Cond.instanceMethod yJ0_coder_7d493, Cond.selects RJ0 yJ0_coder_7d493 yJ0_coder_7d493, Cond.code yJ0_coder_7d493 cJ0_coder_7d493 1 (some .byte), Cond.fieldLink RJ0 38 "java/lang/String" "COMPACT_STRINGS" "Z", Cond.fieldLink RJ0 15 "java/lang/String" "coder" "B", Cond.methodLink RX12 238 yJ0_charAt_5068e, Cond.instanceMethod yJ0_charAt_5068e, Cond.selects RJ0 yJ0_charAt_5068e yJ0_charAt_5068e, Cond.code yJ0_charAt_5068e cJ0_charAt_5068e 2 (some .char), Cond.methodLink RJ0 492 yJ0_isLatin1_aae02, Cond.instanceMethod yJ0_isLatin1_aae02, Cond.selects RJ0 yJ0_isLatin1_aae02 yJ0_isLatin1_aae02, Cond.code yJ0_isLatin1_aae02 cJ0_isLatin1_aae02 1 (some .boolean), Cond.methodLink RJ0 495 yJ1_charAt_3b067, Cond.static yJ1_charAt_3b067, Cond.initialized RJ1, Cond.code yJ1_charAt_3b067 cJ1_charAt_3b067 2 (some .char), Cond.methodLink RJ1 9 yJ0_checkIndex_df160, Cond.static yJ0_checkIndex_df160, Cond.code yJ0_checkIndex_df160 cJ0_checkIndex_df160 2 none, Cond.fieldLink RJ0 1053 "jdk/internal/util/Preconditions" "SIOOBE_FORMATTER" "Ljava/util/function/BiFunction;", Cond.methodLink RJ0 1059 yJ3_checkIndex_8e157, Cond.static yJ3_checkIndex_8e157, Cond.initialized RJ3]
def wsX12_program_r4 : List Cond := [Cond.code yJ3_checkIndex_8e157 cJ3_checkIndex_8e157 3 (some .int), Cond.methodLink RJ0 498 yJ2_charAt_3b067, Cond.static yJ2_charAt_3b067, Cond.initialized RJ2, Cond.code yJ2_charAt_3b067 cJ2_charAt_3b067 2 (some .char), Cond.methodLink RJ2 67 yJ2_checkIndex_2214a, Cond.static yJ2_checkIndex_2214a, Cond.code yJ2_checkIndex_2214a cJ2_checkIndex_2214a 2 none, Cond.methodLink RJ2 48 yJ2_length_9d52b, Cond.static yJ2_length_9d52b, Cond.code yJ2_length_9d52b cJ2_length_9d52b 1 (some .int), Cond.methodLink RJ2 414 yJ0_checkIndex_df160, Cond.methodLink RJ2 71 yJ2_getChar_3b067, Cond.static yJ2_getChar_3b067, Cond.code yJ2_getChar_3b067 cJ2_getChar_3b067 2 (some .char), Cond.fieldLink RJ2 44 "java/lang/StringUTF16" "$assertionsDisabled" "Z", Cond.fieldLink RJ2 59 "java/lang/StringUTF16" "HI_BYTE_SHIFT" "I", Cond.fieldLink RJ2 63 "java/lang/StringUTF16" "LO_BYTE_SHIFT" "I", Cond.methodLink RX12 254 yX12_which, Cond.instanceMethod yX12_which, Cond.selects RX12 yX12_which yX12_which, Cond.code yX12_which cX12_which 7 (some .int), Cond.methodLink RX12 246 yX12_wrong, Cond.instanceMethod yX12_wrong]
def wsX12_program_r5 : List Cond := [Cond.selects RX12 yX12_wrong yX12_wrong, Cond.code yX12_wrong cX12_wrong 2 (some .boolean), Cond.methodLink RX12 271 yX12_condition, Cond.instanceMethod yX12_condition, Cond.selects RX12 yX12_condition yX12_condition, Cond.code yX12_condition cX12_condition 4 (some .boolean), Cond.methodLink RX12 264 yX12_number, Cond.instanceMethod yX12_number, Cond.selects RX12 yX12_number yX12_number, Cond.code yX12_number cX12_number 2 (some .int), Cond.methodLink RX12 278 yX12_must, Cond.instanceMethod yX12_must, Cond.selects RX12 yX12_must yX12_must, Cond.code yX12_must cX12_must 2 (some .boolean)]
def wsX12_program : List Cond := .code yX12_program cX12_program 5 (some .int) :: ((wsX12_program_r1 ++ (wsX12_program_r2 ++ (wsX12_program_r3 ++ (wsX12_program_r4 ++ wsX12_program_r5)))) ++ wsX120)
def wsX12_place : List Cond := .code yX12_place cX12_place 1 (some .int) :: ([.fieldLink RX12 161 "SilkMillModel" "thrown" "I", .fieldLink RX12 86 "SilkMillModel" "faultPlace" "I"] ++ wsX120)
def wsX12_fineAt : List Cond := .code yX12_fineAt cX12_fineAt 4 (some .int) :: ([.fieldLink RX12 90 "SilkMillModel" "metreEnds" "[I", .fieldLink RX12 94 "SilkMillModel" "drawn" "[I", .methodLink RX12 183 yX12_fineOf, .instanceMethod yX12_fineOf, .selects RX12 yX12_fineOf yX12_fineOf, .initialized RX12, .code yX12_fineOf cX12_fineOf 6 (some .int), .fieldLink RX12 13 "SilkMillModel" "lotSeed" "[I", .fieldLink RX12 16 "SilkMillModel" "lotBase" "[I", .fieldLink RX12 34 "SilkMillModel" "thin" "[I", .methodLink RX12 172 yX12_next, .static yX12_next, .code yX12_next cX12_next 1 (some .int), .constant RX12 164 (1103515245), .methodLink RX12 176 yX12_part, .static yX12_part, .code yX12_part cX12_part 2 (some .int), .methodLink RX12 180 yX12_lengthOf, .instanceMethod yX12_lengthOf, .selects RX12 yX12_lengthOf yX12_lengthOf, .code yX12_lengthOf cX12_lengthOf 4 (some .int), .fieldLink RX12 19 "SilkMillModel" "lotLong" "[I"] ++ wsX120)
def wsX12_weight_r1 : List Cond := [Cond.methodLink RX12 287 yX12_fineAt, Cond.instanceMethod yX12_fineAt, Cond.selects RX12 yX12_fineAt yX12_fineAt, Cond.initialized RX12, Cond.code yX12_fineAt cX12_fineAt 4 (some .int), Cond.fieldLink RX12 90 "SilkMillModel" "metreEnds" "[I", Cond.fieldLink RX12 94 "SilkMillModel" "drawn" "[I", Cond.methodLink RX12 183 yX12_fineOf, Cond.instanceMethod yX12_fineOf, Cond.selects RX12 yX12_fineOf yX12_fineOf, Cond.code yX12_fineOf cX12_fineOf 6 (some .int), Cond.fieldLink RX12 13 "SilkMillModel" "lotSeed" "[I", Cond.fieldLink RX12 16 "SilkMillModel" "lotBase" "[I", Cond.fieldLink RX12 34 "SilkMillModel" "thin" "[I", Cond.methodLink RX12 172 yX12_next, Cond.static yX12_next, Cond.code yX12_next cX12_next 1 (some .int), Cond.constant RX12 164 (1103515245), Cond.methodLink RX12 176 yX12_part, Cond.static yX12_part, Cond.code yX12_part cX12_part 2 (some .int), Cond.methodLink RX12 180 yX12_lengthOf, Cond.instanceMethod yX12_lengthOf, Cond.selects RX12 yX12_lengthOf yX12_lengthOf]
def wsX12_weight_r2 : List Cond := [Cond.code yX12_lengthOf cX12_lengthOf 4 (some .int), Cond.fieldLink RX12 19 "SilkMillModel" "lotLong" "[I"]
def wsX12_weight : List Cond := .code yX12_weight cX12_weight 5 (some .int) :: ((wsX12_weight_r1 ++ wsX12_weight_r2) ++ wsX120)
def wsX12_growing : List Cond := .code yX12_growing cX12_growing 2 (some .int) :: ([])
def wsX12_cuts_r1 : List Cond := [Cond.fieldLink RX12 97 "SilkMillModel" "grown" "[I", Cond.fieldLink RX12 290 "SilkMillModel" "skeins" "I", Cond.fieldLink RX12 293 "SilkMillModel" "waste" "I", Cond.fieldLink RX12 100 "SilkMillModel" "firstMetre" "[I", Cond.fieldLink RX12 90 "SilkMillModel" "metreEnds" "[I", Cond.fieldLink RX12 94 "SilkMillModel" "drawn" "[I", Cond.fieldLink RX12 103 "SilkMillModel" "skeinPot" "[I", Cond.fieldLink RX12 106 "SilkMillModel" "skeinDay" "[I", Cond.fieldLink RX12 302 "SilkMillModel" "today" "I", Cond.fieldLink RX12 109 "SilkMillModel" "skeinAim" "[I", Cond.fieldLink RX12 37 "SilkMillModel" "aim" "[I", Cond.fieldLink RX12 112 "SilkMillModel" "skeinGrade" "[I", Cond.fieldLink RX12 115 "SilkMillModel" "isSold" "[Z", Cond.methodLink RX12 296 yX12_growing, Cond.instanceMethod yX12_growing, Cond.selects RX12 yX12_growing yX12_growing, Cond.initialized RX12, Cond.code yX12_growing cX12_growing 2 (some .int), Cond.methodLink RX12 299 yX12_weight, Cond.instanceMethod yX12_weight, Cond.selects RX12 yX12_weight yX12_weight, Cond.code yX12_weight cX12_weight 5 (some .int), Cond.methodLink RX12 287 yX12_fineAt, Cond.instanceMethod yX12_fineAt]
def wsX12_cuts_r2 : List Cond := [Cond.selects RX12 yX12_fineAt yX12_fineAt, Cond.code yX12_fineAt cX12_fineAt 4 (some .int), Cond.methodLink RX12 183 yX12_fineOf, Cond.instanceMethod yX12_fineOf, Cond.selects RX12 yX12_fineOf yX12_fineOf, Cond.code yX12_fineOf cX12_fineOf 6 (some .int), Cond.fieldLink RX12 13 "SilkMillModel" "lotSeed" "[I", Cond.fieldLink RX12 16 "SilkMillModel" "lotBase" "[I", Cond.fieldLink RX12 34 "SilkMillModel" "thin" "[I", Cond.methodLink RX12 172 yX12_next, Cond.static yX12_next, Cond.code yX12_next cX12_next 1 (some .int), Cond.constant RX12 164 (1103515245), Cond.methodLink RX12 176 yX12_part, Cond.static yX12_part, Cond.code yX12_part cX12_part 2 (some .int), Cond.methodLink RX12 180 yX12_lengthOf, Cond.instanceMethod yX12_lengthOf, Cond.selects RX12 yX12_lengthOf yX12_lengthOf, Cond.code yX12_lengthOf cX12_lengthOf 4 (some .int), Cond.fieldLink RX12 19 "SilkMillModel" "lotLong" "[I"]
def wsX12_cuts : List Cond := .code yX12_cuts cX12_cuts 6 (some .int) :: ((wsX12_cuts_r1 ++ wsX12_cuts_r2) ++ wsX120)
def wsX12_cut_r1 : List Cond := [Cond.fieldLink RX12 161 "SilkMillModel" "thrown" "I", Cond.methodLink RX12 200 yX12_isPot, Cond.instanceMethod yX12_isPot, Cond.selects RX12 yX12_isPot yX12_isPot, Cond.initialized RX12, Cond.code yX12_isPot cX12_isPot 2 (some .boolean), Cond.fieldLink RX12 197 "SilkMillModel" "pots" "I", Cond.methodLink RX12 168 yX12_within, Cond.static yX12_within, Cond.code yX12_within cX12_within 3 (some .boolean), Cond.methodLink RX12 305 yX12_cuts, Cond.instanceMethod yX12_cuts, Cond.selects RX12 yX12_cuts yX12_cuts, Cond.code yX12_cuts cX12_cuts 6 (some .int), Cond.fieldLink RX12 97 "SilkMillModel" "grown" "[I", Cond.fieldLink RX12 290 "SilkMillModel" "skeins" "I", Cond.fieldLink RX12 293 "SilkMillModel" "waste" "I", Cond.fieldLink RX12 100 "SilkMillModel" "firstMetre" "[I", Cond.fieldLink RX12 90 "SilkMillModel" "metreEnds" "[I", Cond.fieldLink RX12 94 "SilkMillModel" "drawn" "[I", Cond.fieldLink RX12 103 "SilkMillModel" "skeinPot" "[I", Cond.fieldLink RX12 106 "SilkMillModel" "skeinDay" "[I", Cond.fieldLink RX12 302 "SilkMillModel" "today" "I", Cond.fieldLink RX12 109 "SilkMillModel" "skeinAim" "[I"]
def wsX12_cut_r2 : List Cond := [Cond.fieldLink RX12 37 "SilkMillModel" "aim" "[I", Cond.fieldLink RX12 112 "SilkMillModel" "skeinGrade" "[I", Cond.fieldLink RX12 115 "SilkMillModel" "isSold" "[Z", Cond.methodLink RX12 296 yX12_growing, Cond.instanceMethod yX12_growing, Cond.selects RX12 yX12_growing yX12_growing, Cond.code yX12_growing cX12_growing 2 (some .int), Cond.methodLink RX12 299 yX12_weight, Cond.instanceMethod yX12_weight, Cond.selects RX12 yX12_weight yX12_weight, Cond.code yX12_weight cX12_weight 5 (some .int), Cond.methodLink RX12 287 yX12_fineAt, Cond.instanceMethod yX12_fineAt, Cond.selects RX12 yX12_fineAt yX12_fineAt, Cond.code yX12_fineAt cX12_fineAt 4 (some .int), Cond.methodLink RX12 183 yX12_fineOf, Cond.instanceMethod yX12_fineOf, Cond.selects RX12 yX12_fineOf yX12_fineOf, Cond.code yX12_fineOf cX12_fineOf 6 (some .int), Cond.fieldLink RX12 13 "SilkMillModel" "lotSeed" "[I", Cond.fieldLink RX12 16 "SilkMillModel" "lotBase" "[I", Cond.fieldLink RX12 34 "SilkMillModel" "thin" "[I", Cond.methodLink RX12 172 yX12_next, Cond.static yX12_next]
def wsX12_cut_r3 : List Cond := [Cond.code yX12_next cX12_next 1 (some .int), Cond.constant RX12 164 (1103515245), Cond.methodLink RX12 176 yX12_part, Cond.static yX12_part, Cond.code yX12_part cX12_part 2 (some .int), Cond.methodLink RX12 180 yX12_lengthOf, Cond.instanceMethod yX12_lengthOf, Cond.selects RX12 yX12_lengthOf yX12_lengthOf, Cond.code yX12_lengthOf cX12_lengthOf 4 (some .int), Cond.fieldLink RX12 19 "SilkMillModel" "lotLong" "[I"]
def wsX12_cut : List Cond := .code yX12_cut cX12_cut 2 (some .int) :: ((wsX12_cut_r1 ++ (wsX12_cut_r2 ++ wsX12_cut_r3)) ++ wsX120)
def wsX12_nowFine_r1 : List Cond := [Cond.fieldLink RX12 28 "SilkMillModel" "place" "[I", Cond.methodLink RX12 204 yX12_many, Cond.instanceMethod yX12_many, Cond.selects RX12 yX12_many yX12_many, Cond.initialized RX12, Cond.code yX12_many cX12_many 3 (some .int), Cond.fieldLink RX12 58 "SilkMillModel" "rowMany" "[I", Cond.methodLink RX12 308 yX12_at, Cond.instanceMethod yX12_at, Cond.selects RX12 yX12_at yX12_at, Cond.code yX12_at cX12_at 4 (some .int), Cond.fieldLink RX12 55 "SilkMillModel" "rowOf" "[I", Cond.methodLink RX12 183 yX12_fineOf, Cond.instanceMethod yX12_fineOf, Cond.selects RX12 yX12_fineOf yX12_fineOf, Cond.code yX12_fineOf cX12_fineOf 6 (some .int), Cond.fieldLink RX12 13 "SilkMillModel" "lotSeed" "[I", Cond.fieldLink RX12 16 "SilkMillModel" "lotBase" "[I", Cond.fieldLink RX12 34 "SilkMillModel" "thin" "[I", Cond.methodLink RX12 172 yX12_next, Cond.static yX12_next, Cond.code yX12_next cX12_next 1 (some .int), Cond.constant RX12 164 (1103515245), Cond.methodLink RX12 176 yX12_part]
def wsX12_nowFine_r2 : List Cond := [Cond.static yX12_part, Cond.code yX12_part cX12_part 2 (some .int), Cond.methodLink RX12 180 yX12_lengthOf, Cond.instanceMethod yX12_lengthOf, Cond.selects RX12 yX12_lengthOf yX12_lengthOf, Cond.code yX12_lengthOf cX12_lengthOf 4 (some .int), Cond.fieldLink RX12 19 "SilkMillModel" "lotLong" "[I"]
def wsX12_nowFine : List Cond := .code yX12_nowFine cX12_nowFine 4 (some .int) :: ((wsX12_nowFine_r1 ++ wsX12_nowFine_r2) ++ wsX120)
def wsX12_thinnest_r1 : List Cond := [Cond.fieldLink RX12 28 "SilkMillModel" "place" "[I", Cond.methodLink RX12 204 yX12_many, Cond.instanceMethod yX12_many, Cond.selects RX12 yX12_many yX12_many, Cond.initialized RX12, Cond.code yX12_many cX12_many 3 (some .int), Cond.fieldLink RX12 58 "SilkMillModel" "rowMany" "[I", Cond.methodLink RX12 308 yX12_at, Cond.instanceMethod yX12_at, Cond.selects RX12 yX12_at yX12_at, Cond.code yX12_at cX12_at 4 (some .int), Cond.fieldLink RX12 55 "SilkMillModel" "rowOf" "[I", Cond.methodLink RX12 183 yX12_fineOf, Cond.instanceMethod yX12_fineOf, Cond.selects RX12 yX12_fineOf yX12_fineOf, Cond.code yX12_fineOf cX12_fineOf 6 (some .int), Cond.fieldLink RX12 13 "SilkMillModel" "lotSeed" "[I", Cond.fieldLink RX12 16 "SilkMillModel" "lotBase" "[I", Cond.fieldLink RX12 34 "SilkMillModel" "thin" "[I", Cond.methodLink RX12 172 yX12_next, Cond.static yX12_next, Cond.code yX12_next cX12_next 1 (some .int), Cond.constant RX12 164 (1103515245), Cond.methodLink RX12 176 yX12_part]
def wsX12_thinnest_r2 : List Cond := [Cond.static yX12_part, Cond.code yX12_part cX12_part 2 (some .int), Cond.methodLink RX12 180 yX12_lengthOf, Cond.instanceMethod yX12_lengthOf, Cond.selects RX12 yX12_lengthOf yX12_lengthOf, Cond.code yX12_lengthOf cX12_lengthOf 4 (some .int), Cond.fieldLink RX12 19 "SilkMillModel" "lotLong" "[I"]
def wsX12_thinnest : List Cond := .code yX12_thinnest cX12_thinnest 4 (some .int) :: ((wsX12_thinnest_r1 ++ wsX12_thinnest_r2) ++ wsX120)
def wsX12_fieldOf_r1 : List Cond := [Cond.fieldLink RX12 97 "SilkMillModel" "grown" "[I", Cond.fieldLink RX12 28 "SilkMillModel" "place" "[I", Cond.fieldLink RX12 302 "SilkMillModel" "today" "I", Cond.methodLink RX12 311 yX12_nowFine, Cond.instanceMethod yX12_nowFine, Cond.selects RX12 yX12_nowFine yX12_nowFine, Cond.initialized RX12, Cond.code yX12_nowFine cX12_nowFine 4 (some .int), Cond.methodLink RX12 204 yX12_many, Cond.instanceMethod yX12_many, Cond.selects RX12 yX12_many yX12_many, Cond.code yX12_many cX12_many 3 (some .int), Cond.fieldLink RX12 58 "SilkMillModel" "rowMany" "[I", Cond.methodLink RX12 308 yX12_at, Cond.instanceMethod yX12_at, Cond.selects RX12 yX12_at yX12_at, Cond.code yX12_at cX12_at 4 (some .int), Cond.fieldLink RX12 55 "SilkMillModel" "rowOf" "[I", Cond.methodLink RX12 183 yX12_fineOf, Cond.instanceMethod yX12_fineOf, Cond.selects RX12 yX12_fineOf yX12_fineOf, Cond.code yX12_fineOf cX12_fineOf 6 (some .int), Cond.fieldLink RX12 13 "SilkMillModel" "lotSeed" "[I", Cond.fieldLink RX12 16 "SilkMillModel" "lotBase" "[I"]
def wsX12_fieldOf_r2 : List Cond := [Cond.fieldLink RX12 34 "SilkMillModel" "thin" "[I", Cond.methodLink RX12 172 yX12_next, Cond.static yX12_next, Cond.code yX12_next cX12_next 1 (some .int), Cond.constant RX12 164 (1103515245), Cond.methodLink RX12 176 yX12_part, Cond.static yX12_part, Cond.code yX12_part cX12_part 2 (some .int), Cond.methodLink RX12 180 yX12_lengthOf, Cond.instanceMethod yX12_lengthOf, Cond.selects RX12 yX12_lengthOf yX12_lengthOf, Cond.code yX12_lengthOf cX12_lengthOf 4 (some .int), Cond.fieldLink RX12 19 "SilkMillModel" "lotLong" "[I", Cond.methodLink RX12 314 yX12_thinnest, Cond.instanceMethod yX12_thinnest, Cond.selects RX12 yX12_thinnest yX12_thinnest, Cond.code yX12_thinnest cX12_thinnest 4 (some .int)]
def wsX12_fieldOf : List Cond := .code yX12_fieldOf cX12_fieldOf 3 (some .int) :: ((wsX12_fieldOf_r1 ++ wsX12_fieldOf_r2) ++ wsX120)
def wsX12_holds_r1 : List Cond := [Cond.fieldLink RX12 70 "SilkMillModel" "conditions" "[I", Cond.fieldLink RX12 73 "SilkMillModel" "field" "[I", Cond.fieldLink RX12 76 "SilkMillModel" "rel" "[I", Cond.fieldLink RX12 79 "SilkMillModel" "than" "[I", Cond.methodLink RX12 317 yX12_fieldOf, Cond.instanceMethod yX12_fieldOf, Cond.selects RX12 yX12_fieldOf yX12_fieldOf, Cond.initialized RX12, Cond.code yX12_fieldOf cX12_fieldOf 3 (some .int), Cond.fieldLink RX12 97 "SilkMillModel" "grown" "[I", Cond.fieldLink RX12 28 "SilkMillModel" "place" "[I", Cond.fieldLink RX12 302 "SilkMillModel" "today" "I", Cond.methodLink RX12 311 yX12_nowFine, Cond.instanceMethod yX12_nowFine, Cond.selects RX12 yX12_nowFine yX12_nowFine, Cond.code yX12_nowFine cX12_nowFine 4 (some .int), Cond.methodLink RX12 204 yX12_many, Cond.instanceMethod yX12_many, Cond.selects RX12 yX12_many yX12_many, Cond.code yX12_many cX12_many 3 (some .int), Cond.fieldLink RX12 58 "SilkMillModel" "rowMany" "[I", Cond.methodLink RX12 308 yX12_at, Cond.instanceMethod yX12_at, Cond.selects RX12 yX12_at yX12_at]
def wsX12_holds_r2 : List Cond := [Cond.code yX12_at cX12_at 4 (some .int), Cond.fieldLink RX12 55 "SilkMillModel" "rowOf" "[I", Cond.methodLink RX12 183 yX12_fineOf, Cond.instanceMethod yX12_fineOf, Cond.selects RX12 yX12_fineOf yX12_fineOf, Cond.code yX12_fineOf cX12_fineOf 6 (some .int), Cond.fieldLink RX12 13 "SilkMillModel" "lotSeed" "[I", Cond.fieldLink RX12 16 "SilkMillModel" "lotBase" "[I", Cond.fieldLink RX12 34 "SilkMillModel" "thin" "[I", Cond.methodLink RX12 172 yX12_next, Cond.static yX12_next, Cond.code yX12_next cX12_next 1 (some .int), Cond.constant RX12 164 (1103515245), Cond.methodLink RX12 176 yX12_part, Cond.static yX12_part, Cond.code yX12_part cX12_part 2 (some .int), Cond.methodLink RX12 180 yX12_lengthOf, Cond.instanceMethod yX12_lengthOf, Cond.selects RX12 yX12_lengthOf yX12_lengthOf, Cond.code yX12_lengthOf cX12_lengthOf 4 (some .int), Cond.fieldLink RX12 19 "SilkMillModel" "lotLong" "[I", Cond.methodLink RX12 314 yX12_thinnest, Cond.instanceMethod yX12_thinnest, Cond.selects RX12 yX12_thinnest yX12_thinnest]
def wsX12_holds_r3 : List Cond := [Cond.code yX12_thinnest cX12_thinnest 4 (some .int)]
def wsX12_holds : List Cond := .code yX12_holds cX12_holds 6 (some .boolean) :: ((wsX12_holds_r1 ++ (wsX12_holds_r2 ++ wsX12_holds_r3)) ++ wsX120)
def wsX12_acts_r1 : List Cond := [Cond.fieldLink RX12 64 "SilkMillModel" "act" "[I", Cond.fieldLink RX12 43 "SilkMillModel" "search" "[I", Cond.fieldLink RX12 46 "SilkMillModel" "stop" "[I", Cond.fieldLink RX12 25 "SilkMillModel" "stand" "[I", Cond.fieldLink RX12 67 "SilkMillModel" "actNumber" "[I", Cond.methodLink RX12 204 yX12_many, Cond.instanceMethod yX12_many, Cond.selects RX12 yX12_many yX12_many, Cond.initialized RX12, Cond.code yX12_many cX12_many 3 (some .int), Cond.fieldLink RX12 58 "SilkMillModel" "rowMany" "[I", Cond.methodLink RX12 320 yX12_goes, Cond.instanceMethod yX12_goes, Cond.selects RX12 yX12_goes yX12_goes, Cond.code yX12_goes cX12_goes 7 (some .int), Cond.fieldLink RX12 55 "SilkMillModel" "rowOf" "[I", Cond.methodLink RX12 207 yX12_comes, Cond.instanceMethod yX12_comes, Cond.selects RX12 yX12_comes yX12_comes, Cond.code yX12_comes cX12_comes 7 none, Cond.fieldLink RX12 31 "SilkMillModel" "potOf" "[I", Cond.methodLink RX12 314 yX12_thinnest, Cond.instanceMethod yX12_thinnest, Cond.selects RX12 yX12_thinnest yX12_thinnest]
def wsX12_acts_r2 : List Cond := [Cond.code yX12_thinnest cX12_thinnest 4 (some .int), Cond.fieldLink RX12 28 "SilkMillModel" "place" "[I", Cond.methodLink RX12 308 yX12_at, Cond.instanceMethod yX12_at, Cond.selects RX12 yX12_at yX12_at, Cond.code yX12_at cX12_at 4 (some .int), Cond.methodLink RX12 183 yX12_fineOf, Cond.instanceMethod yX12_fineOf, Cond.selects RX12 yX12_fineOf yX12_fineOf, Cond.code yX12_fineOf cX12_fineOf 6 (some .int), Cond.fieldLink RX12 13 "SilkMillModel" "lotSeed" "[I", Cond.fieldLink RX12 16 "SilkMillModel" "lotBase" "[I", Cond.fieldLink RX12 34 "SilkMillModel" "thin" "[I", Cond.methodLink RX12 172 yX12_next, Cond.static yX12_next, Cond.code yX12_next cX12_next 1 (some .int), Cond.constant RX12 164 (1103515245), Cond.methodLink RX12 176 yX12_part, Cond.static yX12_part, Cond.code yX12_part cX12_part 2 (some .int), Cond.methodLink RX12 180 yX12_lengthOf, Cond.instanceMethod yX12_lengthOf, Cond.selects RX12 yX12_lengthOf yX12_lengthOf, Cond.code yX12_lengthOf cX12_lengthOf 4 (some .int)]
def wsX12_acts_r3 : List Cond := [Cond.fieldLink RX12 19 "SilkMillModel" "lotLong" "[I", Cond.methodLink RX12 305 yX12_cuts, Cond.instanceMethod yX12_cuts, Cond.selects RX12 yX12_cuts yX12_cuts, Cond.code yX12_cuts cX12_cuts 6 (some .int), Cond.fieldLink RX12 97 "SilkMillModel" "grown" "[I", Cond.fieldLink RX12 290 "SilkMillModel" "skeins" "I", Cond.fieldLink RX12 293 "SilkMillModel" "waste" "I", Cond.fieldLink RX12 100 "SilkMillModel" "firstMetre" "[I", Cond.fieldLink RX12 90 "SilkMillModel" "metreEnds" "[I", Cond.fieldLink RX12 94 "SilkMillModel" "drawn" "[I", Cond.fieldLink RX12 103 "SilkMillModel" "skeinPot" "[I", Cond.fieldLink RX12 106 "SilkMillModel" "skeinDay" "[I", Cond.fieldLink RX12 302 "SilkMillModel" "today" "I", Cond.fieldLink RX12 109 "SilkMillModel" "skeinAim" "[I", Cond.fieldLink RX12 37 "SilkMillModel" "aim" "[I", Cond.fieldLink RX12 112 "SilkMillModel" "skeinGrade" "[I", Cond.fieldLink RX12 115 "SilkMillModel" "isSold" "[Z", Cond.methodLink RX12 296 yX12_growing, Cond.instanceMethod yX12_growing, Cond.selects RX12 yX12_growing yX12_growing, Cond.code yX12_growing cX12_growing 2 (some .int), Cond.methodLink RX12 299 yX12_weight, Cond.instanceMethod yX12_weight]
def wsX12_acts_r4 : List Cond := [Cond.selects RX12 yX12_weight yX12_weight, Cond.code yX12_weight cX12_weight 5 (some .int), Cond.methodLink RX12 287 yX12_fineAt, Cond.instanceMethod yX12_fineAt, Cond.selects RX12 yX12_fineAt yX12_fineAt, Cond.code yX12_fineAt cX12_fineAt 4 (some .int)]
def wsX12_acts : List Cond := .code yX12_acts cX12_acts 4 none :: ((wsX12_acts_r1 ++ (wsX12_acts_r2 ++ (wsX12_acts_r3 ++ wsX12_acts_r4))) ++ wsX120)
def wsX12_tick_r1 : List Cond := [Cond.fieldLink RX12 52 "SilkMillModel" "ticksEver" "[I", Cond.fieldLink RX12 43 "SilkMillModel" "search" "[I", Cond.fieldLink RX12 40 "SilkMillModel" "find" "[I", Cond.fieldLink RX12 46 "SilkMillModel" "stop" "[I", Cond.fieldLink RX12 61 "SilkMillModel" "rules" "[I", Cond.fieldLink RX12 97 "SilkMillModel" "grown" "[I", Cond.fieldLink RX12 90 "SilkMillModel" "metreEnds" "[I", Cond.fieldLink RX12 94 "SilkMillModel" "drawn" "[I", Cond.fieldLink RX12 28 "SilkMillModel" "place" "[I", Cond.fieldLink RX12 49 "SilkMillModel" "drawnEver" "[I", Cond.fieldLink RX12 25 "SilkMillModel" "stand" "[I", Cond.fieldLink RX12 330 "SilkMillModel" "cutAtOnce" "I", Cond.methodLink RX12 204 yX12_many, Cond.instanceMethod yX12_many, Cond.selects RX12 yX12_many yX12_many, Cond.initialized RX12, Cond.code yX12_many cX12_many 3 (some .int), Cond.fieldLink RX12 58 "SilkMillModel" "rowMany" "[I", Cond.methodLink RX12 320 yX12_goes, Cond.instanceMethod yX12_goes, Cond.selects RX12 yX12_goes yX12_goes, Cond.code yX12_goes cX12_goes 7 (some .int), Cond.fieldLink RX12 55 "SilkMillModel" "rowOf" "[I", Cond.methodLink RX12 207 yX12_comes]
def wsX12_tick_r2 : List Cond := [Cond.instanceMethod yX12_comes, Cond.selects RX12 yX12_comes yX12_comes, Cond.code yX12_comes cX12_comes 7 none, Cond.fieldLink RX12 31 "SilkMillModel" "potOf" "[I", Cond.methodLink RX12 323 yX12_holds, Cond.instanceMethod yX12_holds, Cond.selects RX12 yX12_holds yX12_holds, Cond.code yX12_holds cX12_holds 6 (some .boolean), Cond.fieldLink RX12 70 "SilkMillModel" "conditions" "[I", Cond.fieldLink RX12 73 "SilkMillModel" "field" "[I", Cond.fieldLink RX12 76 "SilkMillModel" "rel" "[I", Cond.fieldLink RX12 79 "SilkMillModel" "than" "[I", Cond.methodLink RX12 317 yX12_fieldOf, Cond.instanceMethod yX12_fieldOf, Cond.selects RX12 yX12_fieldOf yX12_fieldOf, Cond.code yX12_fieldOf cX12_fieldOf 3 (some .int), Cond.fieldLink RX12 302 "SilkMillModel" "today" "I", Cond.methodLink RX12 311 yX12_nowFine, Cond.instanceMethod yX12_nowFine, Cond.selects RX12 yX12_nowFine yX12_nowFine, Cond.code yX12_nowFine cX12_nowFine 4 (some .int), Cond.methodLink RX12 308 yX12_at, Cond.instanceMethod yX12_at, Cond.selects RX12 yX12_at yX12_at]
def wsX12_tick_r3 : List Cond := [Cond.code yX12_at cX12_at 4 (some .int), Cond.methodLink RX12 183 yX12_fineOf, Cond.instanceMethod yX12_fineOf, Cond.selects RX12 yX12_fineOf yX12_fineOf, Cond.code yX12_fineOf cX12_fineOf 6 (some .int), Cond.fieldLink RX12 13 "SilkMillModel" "lotSeed" "[I", Cond.fieldLink RX12 16 "SilkMillModel" "lotBase" "[I", Cond.fieldLink RX12 34 "SilkMillModel" "thin" "[I", Cond.methodLink RX12 172 yX12_next, Cond.static yX12_next, Cond.code yX12_next cX12_next 1 (some .int), Cond.constant RX12 164 (1103515245), Cond.methodLink RX12 176 yX12_part, Cond.static yX12_part, Cond.code yX12_part cX12_part 2 (some .int), Cond.methodLink RX12 180 yX12_lengthOf, Cond.instanceMethod yX12_lengthOf, Cond.selects RX12 yX12_lengthOf yX12_lengthOf, Cond.code yX12_lengthOf cX12_lengthOf 4 (some .int), Cond.fieldLink RX12 19 "SilkMillModel" "lotLong" "[I", Cond.methodLink RX12 314 yX12_thinnest, Cond.instanceMethod yX12_thinnest, Cond.selects RX12 yX12_thinnest yX12_thinnest, Cond.code yX12_thinnest cX12_thinnest 4 (some .int)]
def wsX12_tick_r4 : List Cond := [Cond.methodLink RX12 326 yX12_acts, Cond.instanceMethod yX12_acts, Cond.selects RX12 yX12_acts yX12_acts, Cond.code yX12_acts cX12_acts 4 none, Cond.fieldLink RX12 64 "SilkMillModel" "act" "[I", Cond.fieldLink RX12 67 "SilkMillModel" "actNumber" "[I", Cond.methodLink RX12 305 yX12_cuts, Cond.instanceMethod yX12_cuts, Cond.selects RX12 yX12_cuts yX12_cuts, Cond.code yX12_cuts cX12_cuts 6 (some .int), Cond.fieldLink RX12 290 "SilkMillModel" "skeins" "I", Cond.fieldLink RX12 293 "SilkMillModel" "waste" "I", Cond.fieldLink RX12 100 "SilkMillModel" "firstMetre" "[I", Cond.fieldLink RX12 103 "SilkMillModel" "skeinPot" "[I", Cond.fieldLink RX12 106 "SilkMillModel" "skeinDay" "[I", Cond.fieldLink RX12 109 "SilkMillModel" "skeinAim" "[I", Cond.fieldLink RX12 37 "SilkMillModel" "aim" "[I", Cond.fieldLink RX12 112 "SilkMillModel" "skeinGrade" "[I", Cond.fieldLink RX12 115 "SilkMillModel" "isSold" "[Z", Cond.methodLink RX12 296 yX12_growing, Cond.instanceMethod yX12_growing, Cond.selects RX12 yX12_growing yX12_growing, Cond.code yX12_growing cX12_growing 2 (some .int), Cond.methodLink RX12 299 yX12_weight]
def wsX12_tick_r5 : List Cond := [Cond.instanceMethod yX12_weight, Cond.selects RX12 yX12_weight yX12_weight, Cond.code yX12_weight cX12_weight 5 (some .int), Cond.methodLink RX12 287 yX12_fineAt, Cond.instanceMethod yX12_fineAt, Cond.selects RX12 yX12_fineAt yX12_fineAt, Cond.code yX12_fineAt cX12_fineAt 4 (some .int), Cond.methodLink RX12 194 yX12_breaks, Cond.instanceMethod yX12_breaks, Cond.selects RX12 yX12_breaks yX12_breaks, Cond.code yX12_breaks cX12_breaks 4 (some .boolean), Cond.fieldLink RX12 22 "SilkMillModel" "lotFrail" "[I"]
def wsX12_tick : List Cond := .code yX12_tick cX12_tick 6 (some .boolean) :: ((wsX12_tick_r1 ++ (wsX12_tick_r2 ++ (wsX12_tick_r3 ++ (wsX12_tick_r4 ++ wsX12_tick_r5)))) ++ wsX120)
def wsX12_run_r1 : List Cond := [Cond.fieldLink RX12 161 "SilkMillModel" "thrown" "I", Cond.methodLink RX12 200 yX12_isPot, Cond.instanceMethod yX12_isPot, Cond.selects RX12 yX12_isPot yX12_isPot, Cond.initialized RX12, Cond.code yX12_isPot cX12_isPot 2 (some .boolean), Cond.fieldLink RX12 197 "SilkMillModel" "pots" "I", Cond.methodLink RX12 168 yX12_within, Cond.static yX12_within, Cond.code yX12_within cX12_within 3 (some .boolean), Cond.methodLink RX12 333 yX12_tick, Cond.instanceMethod yX12_tick, Cond.selects RX12 yX12_tick yX12_tick, Cond.code yX12_tick cX12_tick 6 (some .boolean), Cond.fieldLink RX12 52 "SilkMillModel" "ticksEver" "[I", Cond.fieldLink RX12 43 "SilkMillModel" "search" "[I", Cond.fieldLink RX12 40 "SilkMillModel" "find" "[I", Cond.fieldLink RX12 46 "SilkMillModel" "stop" "[I", Cond.fieldLink RX12 61 "SilkMillModel" "rules" "[I", Cond.fieldLink RX12 97 "SilkMillModel" "grown" "[I", Cond.fieldLink RX12 90 "SilkMillModel" "metreEnds" "[I", Cond.fieldLink RX12 94 "SilkMillModel" "drawn" "[I", Cond.fieldLink RX12 28 "SilkMillModel" "place" "[I", Cond.fieldLink RX12 49 "SilkMillModel" "drawnEver" "[I"]
def wsX12_run_r2 : List Cond := [Cond.fieldLink RX12 25 "SilkMillModel" "stand" "[I", Cond.fieldLink RX12 330 "SilkMillModel" "cutAtOnce" "I", Cond.methodLink RX12 204 yX12_many, Cond.instanceMethod yX12_many, Cond.selects RX12 yX12_many yX12_many, Cond.code yX12_many cX12_many 3 (some .int), Cond.fieldLink RX12 58 "SilkMillModel" "rowMany" "[I", Cond.methodLink RX12 320 yX12_goes, Cond.instanceMethod yX12_goes, Cond.selects RX12 yX12_goes yX12_goes, Cond.code yX12_goes cX12_goes 7 (some .int), Cond.fieldLink RX12 55 "SilkMillModel" "rowOf" "[I", Cond.methodLink RX12 207 yX12_comes, Cond.instanceMethod yX12_comes, Cond.selects RX12 yX12_comes yX12_comes, Cond.code yX12_comes cX12_comes 7 none, Cond.fieldLink RX12 31 "SilkMillModel" "potOf" "[I", Cond.methodLink RX12 323 yX12_holds, Cond.instanceMethod yX12_holds, Cond.selects RX12 yX12_holds yX12_holds, Cond.code yX12_holds cX12_holds 6 (some .boolean), Cond.fieldLink RX12 70 "SilkMillModel" "conditions" "[I", Cond.fieldLink RX12 73 "SilkMillModel" "field" "[I", Cond.fieldLink RX12 76 "SilkMillModel" "rel" "[I"]
def wsX12_run_r3 : List Cond := [Cond.fieldLink RX12 79 "SilkMillModel" "than" "[I", Cond.methodLink RX12 317 yX12_fieldOf, Cond.instanceMethod yX12_fieldOf, Cond.selects RX12 yX12_fieldOf yX12_fieldOf, Cond.code yX12_fieldOf cX12_fieldOf 3 (some .int), Cond.fieldLink RX12 302 "SilkMillModel" "today" "I", Cond.methodLink RX12 311 yX12_nowFine, Cond.instanceMethod yX12_nowFine, Cond.selects RX12 yX12_nowFine yX12_nowFine, Cond.code yX12_nowFine cX12_nowFine 4 (some .int), Cond.methodLink RX12 308 yX12_at, Cond.instanceMethod yX12_at, Cond.selects RX12 yX12_at yX12_at, Cond.code yX12_at cX12_at 4 (some .int), Cond.methodLink RX12 183 yX12_fineOf, Cond.instanceMethod yX12_fineOf, Cond.selects RX12 yX12_fineOf yX12_fineOf, Cond.code yX12_fineOf cX12_fineOf 6 (some .int), Cond.fieldLink RX12 13 "SilkMillModel" "lotSeed" "[I", Cond.fieldLink RX12 16 "SilkMillModel" "lotBase" "[I", Cond.fieldLink RX12 34 "SilkMillModel" "thin" "[I", Cond.methodLink RX12 172 yX12_next, Cond.static yX12_next, Cond.code yX12_next cX12_next 1 (some .int)]
def wsX12_run_r4 : List Cond := [Cond.constant RX12 164 (1103515245), Cond.methodLink RX12 176 yX12_part, Cond.static yX12_part, Cond.code yX12_part cX12_part 2 (some .int), Cond.methodLink RX12 180 yX12_lengthOf, Cond.instanceMethod yX12_lengthOf, Cond.selects RX12 yX12_lengthOf yX12_lengthOf, Cond.code yX12_lengthOf cX12_lengthOf 4 (some .int), Cond.fieldLink RX12 19 "SilkMillModel" "lotLong" "[I", Cond.methodLink RX12 314 yX12_thinnest, Cond.instanceMethod yX12_thinnest, Cond.selects RX12 yX12_thinnest yX12_thinnest, Cond.code yX12_thinnest cX12_thinnest 4 (some .int), Cond.methodLink RX12 326 yX12_acts, Cond.instanceMethod yX12_acts, Cond.selects RX12 yX12_acts yX12_acts, Cond.code yX12_acts cX12_acts 4 none, Cond.fieldLink RX12 64 "SilkMillModel" "act" "[I", Cond.fieldLink RX12 67 "SilkMillModel" "actNumber" "[I", Cond.methodLink RX12 305 yX12_cuts, Cond.instanceMethod yX12_cuts, Cond.selects RX12 yX12_cuts yX12_cuts, Cond.code yX12_cuts cX12_cuts 6 (some .int), Cond.fieldLink RX12 290 "SilkMillModel" "skeins" "I"]
def wsX12_run_r5 : List Cond := [Cond.fieldLink RX12 293 "SilkMillModel" "waste" "I", Cond.fieldLink RX12 100 "SilkMillModel" "firstMetre" "[I", Cond.fieldLink RX12 103 "SilkMillModel" "skeinPot" "[I", Cond.fieldLink RX12 106 "SilkMillModel" "skeinDay" "[I", Cond.fieldLink RX12 109 "SilkMillModel" "skeinAim" "[I", Cond.fieldLink RX12 37 "SilkMillModel" "aim" "[I", Cond.fieldLink RX12 112 "SilkMillModel" "skeinGrade" "[I", Cond.fieldLink RX12 115 "SilkMillModel" "isSold" "[Z", Cond.methodLink RX12 296 yX12_growing, Cond.instanceMethod yX12_growing, Cond.selects RX12 yX12_growing yX12_growing, Cond.code yX12_growing cX12_growing 2 (some .int), Cond.methodLink RX12 299 yX12_weight, Cond.instanceMethod yX12_weight, Cond.selects RX12 yX12_weight yX12_weight, Cond.code yX12_weight cX12_weight 5 (some .int), Cond.methodLink RX12 287 yX12_fineAt, Cond.instanceMethod yX12_fineAt, Cond.selects RX12 yX12_fineAt yX12_fineAt, Cond.code yX12_fineAt cX12_fineAt 4 (some .int), Cond.methodLink RX12 194 yX12_breaks, Cond.instanceMethod yX12_breaks, Cond.selects RX12 yX12_breaks yX12_breaks, Cond.code yX12_breaks cX12_breaks 4 (some .boolean)]
def wsX12_run_r6 : List Cond := [Cond.fieldLink RX12 22 "SilkMillModel" "lotFrail" "[I"]
def wsX12_run : List Cond := .code yX12_run cX12_run 5 (some .int) :: ((wsX12_run_r1 ++ (wsX12_run_r2 ++ (wsX12_run_r3 ++ (wsX12_run_r4 ++ (wsX12_run_r5 ++ wsX12_run_r6))))) ++ wsX120)
def wsX12_about_r1 : List Cond := [Cond.fieldLink RX12 161 "SilkMillModel" "thrown" "I", Cond.fieldLink RX12 97 "SilkMillModel" "grown" "[I", Cond.fieldLink RX12 46 "SilkMillModel" "stop" "[I", Cond.fieldLink RX12 43 "SilkMillModel" "search" "[I", Cond.fieldLink RX12 49 "SilkMillModel" "drawnEver" "[I", Cond.fieldLink RX12 52 "SilkMillModel" "ticksEver" "[I", Cond.fieldLink RX12 61 "SilkMillModel" "rules" "[I", Cond.fieldLink RX12 37 "SilkMillModel" "aim" "[I", Cond.methodLink RX12 200 yX12_isPot, Cond.instanceMethod yX12_isPot, Cond.selects RX12 yX12_isPot yX12_isPot, Cond.initialized RX12, Cond.code yX12_isPot cX12_isPot 2 (some .boolean), Cond.fieldLink RX12 197 "SilkMillModel" "pots" "I", Cond.methodLink RX12 168 yX12_within, Cond.static yX12_within, Cond.code yX12_within cX12_within 3 (some .boolean), Cond.methodLink RX12 204 yX12_many, Cond.instanceMethod yX12_many, Cond.selects RX12 yX12_many yX12_many, Cond.code yX12_many cX12_many 3 (some .int), Cond.fieldLink RX12 58 "SilkMillModel" "rowMany" "[I", Cond.methodLink RX12 311 yX12_nowFine, Cond.instanceMethod yX12_nowFine]
def wsX12_about_r2 : List Cond := [Cond.selects RX12 yX12_nowFine yX12_nowFine, Cond.code yX12_nowFine cX12_nowFine 4 (some .int), Cond.fieldLink RX12 28 "SilkMillModel" "place" "[I", Cond.methodLink RX12 308 yX12_at, Cond.instanceMethod yX12_at, Cond.selects RX12 yX12_at yX12_at, Cond.code yX12_at cX12_at 4 (some .int), Cond.fieldLink RX12 55 "SilkMillModel" "rowOf" "[I", Cond.methodLink RX12 183 yX12_fineOf, Cond.instanceMethod yX12_fineOf, Cond.selects RX12 yX12_fineOf yX12_fineOf, Cond.code yX12_fineOf cX12_fineOf 6 (some .int), Cond.fieldLink RX12 13 "SilkMillModel" "lotSeed" "[I", Cond.fieldLink RX12 16 "SilkMillModel" "lotBase" "[I", Cond.fieldLink RX12 34 "SilkMillModel" "thin" "[I", Cond.methodLink RX12 172 yX12_next, Cond.static yX12_next, Cond.code yX12_next cX12_next 1 (some .int), Cond.constant RX12 164 (1103515245), Cond.methodLink RX12 176 yX12_part, Cond.static yX12_part, Cond.code yX12_part cX12_part 2 (some .int), Cond.methodLink RX12 180 yX12_lengthOf, Cond.instanceMethod yX12_lengthOf]
def wsX12_about_r3 : List Cond := [Cond.selects RX12 yX12_lengthOf yX12_lengthOf, Cond.code yX12_lengthOf cX12_lengthOf 4 (some .int), Cond.fieldLink RX12 19 "SilkMillModel" "lotLong" "[I"]
def wsX12_about : List Cond := .code yX12_about cX12_about 3 (some .int) :: ((wsX12_about_r1 ++ (wsX12_about_r2 ++ wsX12_about_r3)) ++ wsX120)
def wsX12_in : List Cond := .code yX12_in cX12_in 5 (some .int) :: ([.fieldLink RX12 161 "SilkMillModel" "thrown" "I", .methodLink RX12 200 yX12_isPot, .instanceMethod yX12_isPot, .selects RX12 yX12_isPot yX12_isPot, .initialized RX12, .code yX12_isPot cX12_isPot 2 (some .boolean), .fieldLink RX12 197 "SilkMillModel" "pots" "I", .methodLink RX12 168 yX12_within, .static yX12_within, .code yX12_within cX12_within 3 (some .boolean), .methodLink RX12 204 yX12_many, .instanceMethod yX12_many, .selects RX12 yX12_many yX12_many, .code yX12_many cX12_many 3 (some .int), .fieldLink RX12 58 "SilkMillModel" "rowMany" "[I", .methodLink RX12 308 yX12_at, .instanceMethod yX12_at, .selects RX12 yX12_at yX12_at, .code yX12_at cX12_at 4 (some .int), .fieldLink RX12 55 "SilkMillModel" "rowOf" "[I"] ++ wsX120)
def wsX12_isSkein : List Cond := .code yX12_isSkein cX12_isSkein 2 (some .boolean) :: ([.fieldLink RX12 290 "SilkMillModel" "skeins" "I", .methodLink RX12 168 yX12_within, .static yX12_within, .initialized RX12, .code yX12_within cX12_within 3 (some .boolean)] ++ wsX120)
def wsX12_metres : List Cond := .code yX12_metres cX12_metres 2 (some .int) :: ([.fieldLink RX12 100 "SilkMillModel" "firstMetre" "[I"] ++ wsX120)
def wsX12_endOf : List Cond := .code yX12_endOf cX12_endOf 4 (some .int) :: ([.fieldLink RX12 90 "SilkMillModel" "metreEnds" "[I", .fieldLink RX12 94 "SilkMillModel" "drawn" "[I"] ++ wsX120)
def wsX12_begins : List Cond := .code yX12_begins cX12_begins 5 (some .boolean) :: ([.fieldLink RX12 100 "SilkMillModel" "firstMetre" "[I", .fieldLink RX12 94 "SilkMillModel" "drawn" "[I", .methodLink RX12 336 yX12_endOf, .instanceMethod yX12_endOf, .selects RX12 yX12_endOf yX12_endOf, .initialized RX12, .code yX12_endOf cX12_endOf 4 (some .int), .fieldLink RX12 90 "SilkMillModel" "metreEnds" "[I"] ++ wsX120)
def wsX12_least_r1 : List Cond := [Cond.fieldLink RX12 100 "SilkMillModel" "firstMetre" "[I", Cond.methodLink RX12 339 Lib.Math.max.name, Cond.static Lib.Math.max.name, Cond.initialized "java/lang/Math", Cond.code Lib.Math.max.name Lib.Math.max.code 2 (some .int), Cond.methodLink RX12 344 Lib.Math.min.name, Cond.static Lib.Math.min.name, Cond.code Lib.Math.min.name Lib.Math.min.code 2 (some .int), Cond.methodLink RX12 287 yX12_fineAt, Cond.instanceMethod yX12_fineAt, Cond.selects RX12 yX12_fineAt yX12_fineAt, Cond.initialized RX12, Cond.code yX12_fineAt cX12_fineAt 4 (some .int), Cond.fieldLink RX12 90 "SilkMillModel" "metreEnds" "[I", Cond.fieldLink RX12 94 "SilkMillModel" "drawn" "[I", Cond.methodLink RX12 183 yX12_fineOf, Cond.instanceMethod yX12_fineOf, Cond.selects RX12 yX12_fineOf yX12_fineOf, Cond.code yX12_fineOf cX12_fineOf 6 (some .int), Cond.fieldLink RX12 13 "SilkMillModel" "lotSeed" "[I", Cond.fieldLink RX12 16 "SilkMillModel" "lotBase" "[I", Cond.fieldLink RX12 34 "SilkMillModel" "thin" "[I", Cond.methodLink RX12 172 yX12_next, Cond.static yX12_next]
def wsX12_least_r2 : List Cond := [Cond.code yX12_next cX12_next 1 (some .int), Cond.constant RX12 164 (1103515245), Cond.methodLink RX12 176 yX12_part, Cond.static yX12_part, Cond.code yX12_part cX12_part 2 (some .int), Cond.methodLink RX12 180 yX12_lengthOf, Cond.instanceMethod yX12_lengthOf, Cond.selects RX12 yX12_lengthOf yX12_lengthOf, Cond.code yX12_lengthOf cX12_lengthOf 4 (some .int), Cond.fieldLink RX12 19 "SilkMillModel" "lotLong" "[I"]
def wsX12_least : List Cond := .code yX12_least cX12_least 5 (some .int) :: ((wsX12_least_r1 ++ wsX12_least_r2) ++ wsX120)
def wsX12_slips_r1 : List Cond := [Cond.fieldLink RX12 100 "SilkMillModel" "firstMetre" "[I", Cond.methodLink RX12 347 Lib.Math.abs.name, Cond.static Lib.Math.abs.name, Cond.initialized "java/lang/Math", Cond.code Lib.Math.abs.name Lib.Math.abs.code 1 (some .int), Cond.methodLink RX12 287 yX12_fineAt, Cond.instanceMethod yX12_fineAt, Cond.selects RX12 yX12_fineAt yX12_fineAt, Cond.initialized RX12, Cond.code yX12_fineAt cX12_fineAt 4 (some .int), Cond.fieldLink RX12 90 "SilkMillModel" "metreEnds" "[I", Cond.fieldLink RX12 94 "SilkMillModel" "drawn" "[I", Cond.methodLink RX12 183 yX12_fineOf, Cond.instanceMethod yX12_fineOf, Cond.selects RX12 yX12_fineOf yX12_fineOf, Cond.code yX12_fineOf cX12_fineOf 6 (some .int), Cond.fieldLink RX12 13 "SilkMillModel" "lotSeed" "[I", Cond.fieldLink RX12 16 "SilkMillModel" "lotBase" "[I", Cond.fieldLink RX12 34 "SilkMillModel" "thin" "[I", Cond.methodLink RX12 172 yX12_next, Cond.static yX12_next, Cond.code yX12_next cX12_next 1 (some .int), Cond.constant RX12 164 (1103515245), Cond.methodLink RX12 176 yX12_part]
def wsX12_slips_r2 : List Cond := [Cond.static yX12_part, Cond.code yX12_part cX12_part 2 (some .int), Cond.methodLink RX12 180 yX12_lengthOf, Cond.instanceMethod yX12_lengthOf, Cond.selects RX12 yX12_lengthOf yX12_lengthOf, Cond.code yX12_lengthOf cX12_lengthOf 4 (some .int), Cond.fieldLink RX12 19 "SilkMillModel" "lotLong" "[I"]
def wsX12_slips : List Cond := .code yX12_slips cX12_slips 4 (some .int) :: ((wsX12_slips_r1 ++ wsX12_slips_r2) ++ wsX120)
def wsX12_pieces : List Cond := .code yX12_pieces cX12_pieces 5 (some .int) :: ([.fieldLink RX12 90 "SilkMillModel" "metreEnds" "[I", .fieldLink RX12 100 "SilkMillModel" "firstMetre" "[I", .methodLink RX12 350 yX12_metres, .instanceMethod yX12_metres, .selects RX12 yX12_metres yX12_metres, .initialized RX12, .code yX12_metres cX12_metres 2 (some .int), .methodLink RX12 353 yX12_begins, .instanceMethod yX12_begins, .selects RX12 yX12_begins yX12_begins, .code yX12_begins cX12_begins 5 (some .boolean), .fieldLink RX12 94 "SilkMillModel" "drawn" "[I", .methodLink RX12 336 yX12_endOf, .instanceMethod yX12_endOf, .selects RX12 yX12_endOf yX12_endOf, .code yX12_endOf cX12_endOf 4 (some .int)] ++ wsX120)
def wsX12_gradeOf : List Cond := .code yX12_gradeOf cX12_gradeOf 2 (some .int) :: ([.fieldLink RX12 112 "SilkMillModel" "skeinGrade" "[I"] ++ wsX120)
def wsX12_weightOf_r1 : List Cond := [Cond.fieldLink RX12 100 "SilkMillModel" "firstMetre" "[I", Cond.methodLink RX12 350 yX12_metres, Cond.instanceMethod yX12_metres, Cond.selects RX12 yX12_metres yX12_metres, Cond.initialized RX12, Cond.code yX12_metres cX12_metres 2 (some .int), Cond.methodLink RX12 299 yX12_weight, Cond.instanceMethod yX12_weight, Cond.selects RX12 yX12_weight yX12_weight, Cond.code yX12_weight cX12_weight 5 (some .int), Cond.methodLink RX12 287 yX12_fineAt, Cond.instanceMethod yX12_fineAt, Cond.selects RX12 yX12_fineAt yX12_fineAt, Cond.code yX12_fineAt cX12_fineAt 4 (some .int), Cond.fieldLink RX12 90 "SilkMillModel" "metreEnds" "[I", Cond.fieldLink RX12 94 "SilkMillModel" "drawn" "[I", Cond.methodLink RX12 183 yX12_fineOf, Cond.instanceMethod yX12_fineOf, Cond.selects RX12 yX12_fineOf yX12_fineOf, Cond.code yX12_fineOf cX12_fineOf 6 (some .int), Cond.fieldLink RX12 13 "SilkMillModel" "lotSeed" "[I", Cond.fieldLink RX12 16 "SilkMillModel" "lotBase" "[I", Cond.fieldLink RX12 34 "SilkMillModel" "thin" "[I", Cond.methodLink RX12 172 yX12_next]
def wsX12_weightOf_r2 : List Cond := [Cond.static yX12_next, Cond.code yX12_next cX12_next 1 (some .int), Cond.constant RX12 164 (1103515245), Cond.methodLink RX12 176 yX12_part, Cond.static yX12_part, Cond.code yX12_part cX12_part 2 (some .int), Cond.methodLink RX12 180 yX12_lengthOf, Cond.instanceMethod yX12_lengthOf, Cond.selects RX12 yX12_lengthOf yX12_lengthOf, Cond.code yX12_lengthOf cX12_lengthOf 4 (some .int), Cond.fieldLink RX12 19 "SilkMillModel" "lotLong" "[I"]
def wsX12_weightOf : List Cond := .code yX12_weightOf cX12_weightOf 2 (some .int) :: ((wsX12_weightOf_r1 ++ wsX12_weightOf_r2) ++ wsX120)
def wsX12_priceOf_r1 : List Cond := [Cond.fieldLink RX12 119 "SilkMillModel" "price" "[I", Cond.methodLink RX12 356 yX12_weightOf, Cond.instanceMethod yX12_weightOf, Cond.selects RX12 yX12_weightOf yX12_weightOf, Cond.initialized RX12, Cond.code yX12_weightOf cX12_weightOf 2 (some .int), Cond.fieldLink RX12 100 "SilkMillModel" "firstMetre" "[I", Cond.methodLink RX12 350 yX12_metres, Cond.instanceMethod yX12_metres, Cond.selects RX12 yX12_metres yX12_metres, Cond.code yX12_metres cX12_metres 2 (some .int), Cond.methodLink RX12 299 yX12_weight, Cond.instanceMethod yX12_weight, Cond.selects RX12 yX12_weight yX12_weight, Cond.code yX12_weight cX12_weight 5 (some .int), Cond.methodLink RX12 287 yX12_fineAt, Cond.instanceMethod yX12_fineAt, Cond.selects RX12 yX12_fineAt yX12_fineAt, Cond.code yX12_fineAt cX12_fineAt 4 (some .int), Cond.fieldLink RX12 90 "SilkMillModel" "metreEnds" "[I", Cond.fieldLink RX12 94 "SilkMillModel" "drawn" "[I", Cond.methodLink RX12 183 yX12_fineOf, Cond.instanceMethod yX12_fineOf, Cond.selects RX12 yX12_fineOf yX12_fineOf]
def wsX12_priceOf_r2 : List Cond := [Cond.code yX12_fineOf cX12_fineOf 6 (some .int), Cond.fieldLink RX12 13 "SilkMillModel" "lotSeed" "[I", Cond.fieldLink RX12 16 "SilkMillModel" "lotBase" "[I", Cond.fieldLink RX12 34 "SilkMillModel" "thin" "[I", Cond.methodLink RX12 172 yX12_next, Cond.static yX12_next, Cond.code yX12_next cX12_next 1 (some .int), Cond.constant RX12 164 (1103515245), Cond.methodLink RX12 176 yX12_part, Cond.static yX12_part, Cond.code yX12_part cX12_part 2 (some .int), Cond.methodLink RX12 180 yX12_lengthOf, Cond.instanceMethod yX12_lengthOf, Cond.selects RX12 yX12_lengthOf yX12_lengthOf, Cond.code yX12_lengthOf cX12_lengthOf 4 (some .int), Cond.fieldLink RX12 19 "SilkMillModel" "lotLong" "[I", Cond.methodLink RX12 359 yX12_gradeOf, Cond.instanceMethod yX12_gradeOf, Cond.selects RX12 yX12_gradeOf yX12_gradeOf, Cond.code yX12_gradeOf cX12_gradeOf 2 (some .int), Cond.fieldLink RX12 112 "SilkMillModel" "skeinGrade" "[I"]
def wsX12_priceOf : List Cond := .code yX12_priceOf cX12_priceOf 2 (some .int) :: ((wsX12_priceOf_r1 ++ wsX12_priceOf_r2) ++ wsX120)
def wsX12_skein_r1 : List Cond := [Cond.fieldLink RX12 161 "SilkMillModel" "thrown" "I", Cond.fieldLink RX12 103 "SilkMillModel" "skeinPot" "[I", Cond.fieldLink RX12 106 "SilkMillModel" "skeinDay" "[I", Cond.fieldLink RX12 115 "SilkMillModel" "isSold" "[Z", Cond.fieldLink RX12 109 "SilkMillModel" "skeinAim" "[I", Cond.methodLink RX12 362 yX12_isSkein, Cond.instanceMethod yX12_isSkein, Cond.selects RX12 yX12_isSkein yX12_isSkein, Cond.initialized RX12, Cond.code yX12_isSkein cX12_isSkein 2 (some .boolean), Cond.fieldLink RX12 290 "SilkMillModel" "skeins" "I", Cond.methodLink RX12 168 yX12_within, Cond.static yX12_within, Cond.code yX12_within cX12_within 3 (some .boolean), Cond.methodLink RX12 350 yX12_metres, Cond.instanceMethod yX12_metres, Cond.selects RX12 yX12_metres yX12_metres, Cond.code yX12_metres cX12_metres 2 (some .int), Cond.fieldLink RX12 100 "SilkMillModel" "firstMetre" "[I", Cond.methodLink RX12 356 yX12_weightOf, Cond.instanceMethod yX12_weightOf, Cond.selects RX12 yX12_weightOf yX12_weightOf, Cond.code yX12_weightOf cX12_weightOf 2 (some .int), Cond.methodLink RX12 299 yX12_weight]
def wsX12_skein_r2 : List Cond := [Cond.instanceMethod yX12_weight, Cond.selects RX12 yX12_weight yX12_weight, Cond.code yX12_weight cX12_weight 5 (some .int), Cond.methodLink RX12 287 yX12_fineAt, Cond.instanceMethod yX12_fineAt, Cond.selects RX12 yX12_fineAt yX12_fineAt, Cond.code yX12_fineAt cX12_fineAt 4 (some .int), Cond.fieldLink RX12 90 "SilkMillModel" "metreEnds" "[I", Cond.fieldLink RX12 94 "SilkMillModel" "drawn" "[I", Cond.methodLink RX12 183 yX12_fineOf, Cond.instanceMethod yX12_fineOf, Cond.selects RX12 yX12_fineOf yX12_fineOf, Cond.code yX12_fineOf cX12_fineOf 6 (some .int), Cond.fieldLink RX12 13 "SilkMillModel" "lotSeed" "[I", Cond.fieldLink RX12 16 "SilkMillModel" "lotBase" "[I", Cond.fieldLink RX12 34 "SilkMillModel" "thin" "[I", Cond.methodLink RX12 172 yX12_next, Cond.static yX12_next, Cond.code yX12_next cX12_next 1 (some .int), Cond.constant RX12 164 (1103515245), Cond.methodLink RX12 176 yX12_part, Cond.static yX12_part, Cond.code yX12_part cX12_part 2 (some .int), Cond.methodLink RX12 180 yX12_lengthOf]
def wsX12_skein_r3 : List Cond := [Cond.instanceMethod yX12_lengthOf, Cond.selects RX12 yX12_lengthOf yX12_lengthOf, Cond.code yX12_lengthOf cX12_lengthOf 4 (some .int), Cond.fieldLink RX12 19 "SilkMillModel" "lotLong" "[I", Cond.methodLink RX12 365 yX12_least, Cond.instanceMethod yX12_least, Cond.selects RX12 yX12_least yX12_least, Cond.code yX12_least cX12_least 5 (some .int), Cond.methodLink RX12 339 Lib.Math.max.name, Cond.static Lib.Math.max.name, Cond.initialized "java/lang/Math", Cond.code Lib.Math.max.name Lib.Math.max.code 2 (some .int), Cond.methodLink RX12 344 Lib.Math.min.name, Cond.static Lib.Math.min.name, Cond.code Lib.Math.min.name Lib.Math.min.code 2 (some .int), Cond.methodLink RX12 369 yX12_slips, Cond.instanceMethod yX12_slips, Cond.selects RX12 yX12_slips yX12_slips, Cond.code yX12_slips cX12_slips 4 (some .int), Cond.methodLink RX12 347 Lib.Math.abs.name, Cond.static Lib.Math.abs.name, Cond.code Lib.Math.abs.name Lib.Math.abs.code 1 (some .int), Cond.methodLink RX12 372 yX12_pieces, Cond.instanceMethod yX12_pieces]
def wsX12_skein_r4 : List Cond := [Cond.selects RX12 yX12_pieces yX12_pieces, Cond.code yX12_pieces cX12_pieces 5 (some .int), Cond.methodLink RX12 353 yX12_begins, Cond.instanceMethod yX12_begins, Cond.selects RX12 yX12_begins yX12_begins, Cond.code yX12_begins cX12_begins 5 (some .boolean), Cond.methodLink RX12 336 yX12_endOf, Cond.instanceMethod yX12_endOf, Cond.selects RX12 yX12_endOf yX12_endOf, Cond.code yX12_endOf cX12_endOf 4 (some .int), Cond.methodLink RX12 359 yX12_gradeOf, Cond.instanceMethod yX12_gradeOf, Cond.selects RX12 yX12_gradeOf yX12_gradeOf, Cond.code yX12_gradeOf cX12_gradeOf 2 (some .int), Cond.fieldLink RX12 112 "SilkMillModel" "skeinGrade" "[I", Cond.methodLink RX12 375 yX12_priceOf, Cond.instanceMethod yX12_priceOf, Cond.selects RX12 yX12_priceOf yX12_priceOf, Cond.code yX12_priceOf cX12_priceOf 2 (some .int), Cond.fieldLink RX12 119 "SilkMillModel" "price" "[I"]
def wsX12_skein : List Cond := .code yX12_skein cX12_skein 3 (some .int) :: ((wsX12_skein_r1 ++ (wsX12_skein_r2 ++ (wsX12_skein_r3 ++ wsX12_skein_r4))) ++ wsX120)
def wsX12_metre_r1 : List Cond := [Cond.fieldLink RX12 161 "SilkMillModel" "thrown" "I", Cond.fieldLink RX12 100 "SilkMillModel" "firstMetre" "[I", Cond.fieldLink RX12 90 "SilkMillModel" "metreEnds" "[I", Cond.methodLink RX12 362 yX12_isSkein, Cond.instanceMethod yX12_isSkein, Cond.selects RX12 yX12_isSkein yX12_isSkein, Cond.initialized RX12, Cond.code yX12_isSkein cX12_isSkein 2 (some .boolean), Cond.fieldLink RX12 290 "SilkMillModel" "skeins" "I", Cond.methodLink RX12 168 yX12_within, Cond.static yX12_within, Cond.code yX12_within cX12_within 3 (some .boolean), Cond.methodLink RX12 350 yX12_metres, Cond.instanceMethod yX12_metres, Cond.selects RX12 yX12_metres yX12_metres, Cond.code yX12_metres cX12_metres 2 (some .int), Cond.methodLink RX12 287 yX12_fineAt, Cond.instanceMethod yX12_fineAt, Cond.selects RX12 yX12_fineAt yX12_fineAt, Cond.code yX12_fineAt cX12_fineAt 4 (some .int), Cond.fieldLink RX12 94 "SilkMillModel" "drawn" "[I", Cond.methodLink RX12 183 yX12_fineOf, Cond.instanceMethod yX12_fineOf, Cond.selects RX12 yX12_fineOf yX12_fineOf]
def wsX12_metre_r2 : List Cond := [Cond.code yX12_fineOf cX12_fineOf 6 (some .int), Cond.fieldLink RX12 13 "SilkMillModel" "lotSeed" "[I", Cond.fieldLink RX12 16 "SilkMillModel" "lotBase" "[I", Cond.fieldLink RX12 34 "SilkMillModel" "thin" "[I", Cond.methodLink RX12 172 yX12_next, Cond.static yX12_next, Cond.code yX12_next cX12_next 1 (some .int), Cond.constant RX12 164 (1103515245), Cond.methodLink RX12 176 yX12_part, Cond.static yX12_part, Cond.code yX12_part cX12_part 2 (some .int), Cond.methodLink RX12 180 yX12_lengthOf, Cond.instanceMethod yX12_lengthOf, Cond.selects RX12 yX12_lengthOf yX12_lengthOf, Cond.code yX12_lengthOf cX12_lengthOf 4 (some .int), Cond.fieldLink RX12 19 "SilkMillModel" "lotLong" "[I"]
def wsX12_metre : List Cond := .code yX12_metre cX12_metre 4 (some .int) :: ((wsX12_metre_r1 ++ wsX12_metre_r2) ++ wsX120)
def wsX12_told : List Cond := .code yX12_told cX12_told 7 (some .int) :: ([.fieldLink RX12 100 "SilkMillModel" "firstMetre" "[I", .methodLink RX12 350 yX12_metres, .instanceMethod yX12_metres, .selects RX12 yX12_metres yX12_metres, .initialized RX12, .code yX12_metres cX12_metres 2 (some .int), .methodLink RX12 336 yX12_endOf, .instanceMethod yX12_endOf, .selects RX12 yX12_endOf yX12_endOf, .code yX12_endOf cX12_endOf 4 (some .int), .fieldLink RX12 90 "SilkMillModel" "metreEnds" "[I", .fieldLink RX12 94 "SilkMillModel" "drawn" "[I"] ++ wsX120)
def wsX12_piece_r1 : List Cond := [Cond.fieldLink RX12 161 "SilkMillModel" "thrown" "I", Cond.fieldLink RX12 90 "SilkMillModel" "metreEnds" "[I", Cond.fieldLink RX12 100 "SilkMillModel" "firstMetre" "[I", Cond.fieldLink RX12 94 "SilkMillModel" "drawn" "[I", Cond.methodLink RX12 362 yX12_isSkein, Cond.instanceMethod yX12_isSkein, Cond.selects RX12 yX12_isSkein yX12_isSkein, Cond.initialized RX12, Cond.code yX12_isSkein cX12_isSkein 2 (some .boolean), Cond.fieldLink RX12 290 "SilkMillModel" "skeins" "I", Cond.methodLink RX12 168 yX12_within, Cond.static yX12_within, Cond.code yX12_within cX12_within 3 (some .boolean), Cond.methodLink RX12 350 yX12_metres, Cond.instanceMethod yX12_metres, Cond.selects RX12 yX12_metres yX12_metres, Cond.code yX12_metres cX12_metres 2 (some .int), Cond.methodLink RX12 353 yX12_begins, Cond.instanceMethod yX12_begins, Cond.selects RX12 yX12_begins yX12_begins, Cond.code yX12_begins cX12_begins 5 (some .boolean), Cond.methodLink RX12 336 yX12_endOf, Cond.instanceMethod yX12_endOf, Cond.selects RX12 yX12_endOf yX12_endOf]
def wsX12_piece_r2 : List Cond := [Cond.code yX12_endOf cX12_endOf 4 (some .int), Cond.methodLink RX12 378 yX12_told, Cond.instanceMethod yX12_told, Cond.selects RX12 yX12_told yX12_told, Cond.code yX12_told cX12_told 7 (some .int)]
def wsX12_piece : List Cond := .code yX12_piece cX12_piece 7 (some .int) :: ((wsX12_piece_r1 ++ wsX12_piece_r2) ++ wsX120)
def wsX12_isDrawn : List Cond := .code yX12_isDrawn cX12_isDrawn 5 (some .boolean) :: ([.fieldLink RX12 122 "SilkMillModel" "draw" "[I"] ++ wsX120)
def wsX12_ways : List Cond := .code yX12_ways cX12_ways 5 (some .long) :: ([])
def wsX12_grade_r1 : List Cond := [Cond.fieldLink RX12 161 "SilkMillModel" "thrown" "I", Cond.fieldLink RX12 382 "SilkMillModel" "off" "I", Cond.fieldLink RX12 122 "SilkMillModel" "draw" "[I", Cond.fieldLink RX12 100 "SilkMillModel" "firstMetre" "[I", Cond.fieldLink RX12 109 "SilkMillModel" "skeinAim" "[I", Cond.methodLink RX12 347 Lib.Math.abs.name, Cond.static Lib.Math.abs.name, Cond.initialized "java/lang/Math", Cond.code Lib.Math.abs.name Lib.Math.abs.code 1 (some .int), Cond.methodLink RX12 339 Lib.Math.max.name, Cond.static Lib.Math.max.name, Cond.code Lib.Math.max.name Lib.Math.max.code 2 (some .int), Cond.fieldLink RX12 388 "SilkMillModel" "draws" "I", Cond.fieldLink RX12 391 "SilkMillModel" "bound" "I", Cond.constantLong RX12 394 (20), Cond.fieldLink RX12 112 "SilkMillModel" "skeinGrade" "[I", Cond.methodLink RX12 362 yX12_isSkein, Cond.instanceMethod yX12_isSkein, Cond.selects RX12 yX12_isSkein yX12_isSkein, Cond.initialized RX12, Cond.code yX12_isSkein cX12_isSkein 2 (some .boolean), Cond.fieldLink RX12 290 "SilkMillModel" "skeins" "I", Cond.methodLink RX12 168 yX12_within, Cond.static yX12_within]
def wsX12_grade_r2 : List Cond := [Cond.code yX12_within cX12_within 3 (some .boolean), Cond.methodLink RX12 350 yX12_metres, Cond.instanceMethod yX12_metres, Cond.selects RX12 yX12_metres yX12_metres, Cond.code yX12_metres cX12_metres 2 (some .int), Cond.methodLink RX12 172 yX12_next, Cond.static yX12_next, Cond.code yX12_next cX12_next 1 (some .int), Cond.constant RX12 164 (1103515245), Cond.methodLink RX12 176 yX12_part, Cond.static yX12_part, Cond.code yX12_part cX12_part 2 (some .int), Cond.methodLink RX12 385 yX12_isDrawn, Cond.instanceMethod yX12_isDrawn, Cond.selects RX12 yX12_isDrawn yX12_isDrawn, Cond.code yX12_isDrawn cX12_isDrawn 5 (some .boolean), Cond.methodLink RX12 287 yX12_fineAt, Cond.instanceMethod yX12_fineAt, Cond.selects RX12 yX12_fineAt yX12_fineAt, Cond.code yX12_fineAt cX12_fineAt 4 (some .int), Cond.fieldLink RX12 90 "SilkMillModel" "metreEnds" "[I", Cond.fieldLink RX12 94 "SilkMillModel" "drawn" "[I", Cond.methodLink RX12 183 yX12_fineOf, Cond.instanceMethod yX12_fineOf]
def wsX12_grade_r3 : List Cond := [Cond.selects RX12 yX12_fineOf yX12_fineOf, Cond.code yX12_fineOf cX12_fineOf 6 (some .int), Cond.fieldLink RX12 13 "SilkMillModel" "lotSeed" "[I", Cond.fieldLink RX12 16 "SilkMillModel" "lotBase" "[I", Cond.fieldLink RX12 34 "SilkMillModel" "thin" "[I", Cond.methodLink RX12 180 yX12_lengthOf, Cond.instanceMethod yX12_lengthOf, Cond.selects RX12 yX12_lengthOf yX12_lengthOf, Cond.code yX12_lengthOf cX12_lengthOf 4 (some .int), Cond.fieldLink RX12 19 "SilkMillModel" "lotLong" "[I", Cond.methodLink RX12 396 yX12_ways, Cond.static yX12_ways, Cond.code yX12_ways cX12_ways 5 (some .long)]
def wsX12_grade : List Cond := .code yX12_grade cX12_grade 8 (some .int) :: ((wsX12_grade_r1 ++ (wsX12_grade_r2 ++ wsX12_grade_r3)) ++ wsX120)
def wsX12_drawn : List Cond := .code yX12_drawn cX12_drawn 2 (some .int) :: ([.fieldLink RX12 161 "SilkMillModel" "thrown" "I", .fieldLink RX12 388 "SilkMillModel" "draws" "I", .fieldLink RX12 382 "SilkMillModel" "off" "I", .fieldLink RX12 391 "SilkMillModel" "bound" "I", .fieldLink RX12 122 "SilkMillModel" "draw" "[I", .methodLink RX12 168 yX12_within, .static yX12_within, .initialized RX12, .code yX12_within cX12_within 3 (some .boolean)] ++ wsX120)
def wsX12_shelve : List Cond := .code yX12_shelve cX12_shelve 6 (some .boolean) :: ([.fieldLink RX12 161 "SilkMillModel" "thrown" "I", .fieldLink RX12 125 "SilkMillModel" "isLaid" "[Z", .fieldLink RX12 25 "SilkMillModel" "stand" "[I", .fieldLink RX12 128 "SilkMillModel" "laid" "[I", .fieldLink RX12 131 "SilkMillModel" "laidValue" "[I", .fieldLink RX12 134 "SilkMillModel" "wordMany" "[I", .fieldLink RX12 137 "SilkMillModel" "wordOf" "[I", .methodLink RX12 168 yX12_within, .static yX12_within, .initialized RX12, .code yX12_within cX12_within 3 (some .boolean), .methodLink RX12 186 yX12_isCocoon, .instanceMethod yX12_isCocoon, .selects RX12 yX12_isCocoon yX12_isCocoon, .code yX12_isCocoon cX12_isCocoon 3 (some .boolean), .fieldLink RX12 165 "SilkMillModel" "lots" "I", .fieldLink RX12 7 "SilkMillModel" "lotMany" "[I"] ++ wsX120)
def wsX12_take : List Cond := .code yX12_take cX12_take 5 (some .int) :: ([.fieldLink RX12 161 "SilkMillModel" "thrown" "I", .fieldLink RX12 125 "SilkMillModel" "isLaid" "[Z", .fieldLink RX12 128 "SilkMillModel" "laid" "[I", .fieldLink RX12 134 "SilkMillModel" "wordMany" "[I", .fieldLink RX12 131 "SilkMillModel" "laidValue" "[I", .fieldLink RX12 25 "SilkMillModel" "stand" "[I", .fieldLink RX12 137 "SilkMillModel" "wordOf" "[I", .methodLink RX12 168 yX12_within, .static yX12_within, .initialized RX12, .code yX12_within cX12_within 3 (some .boolean)] ++ wsX120)
def wsX12_isWord : List Cond := .code yX12_isWord cX12_isWord 2 (some .boolean) :: ([.fieldLink RX12 125 "SilkMillModel" "isLaid" "[Z", .fieldLink RX12 128 "SilkMillModel" "laid" "[I", .fieldLink RX12 134 "SilkMillModel" "wordMany" "[I", .methodLink RX12 168 yX12_within, .static yX12_within, .initialized RX12, .code yX12_within cX12_within 3 (some .boolean)] ++ wsX120)
def wsX12_copy : List Cond := .code yX12_copy cX12_copy 8 (some .boolean) :: ([.fieldLink RX12 161 "SilkMillModel" "thrown" "I", .fieldLink RX12 134 "SilkMillModel" "wordMany" "[I", .arrayClass .int, .fieldLink RX12 137 "SilkMillModel" "wordOf" "[I", .methodLink RX12 400 yX12_isWord, .instanceMethod yX12_isWord, .selects RX12 yX12_isWord yX12_isWord, .initialized RX12, .code yX12_isWord cX12_isWord 2 (some .boolean), .fieldLink RX12 125 "SilkMillModel" "isLaid" "[Z", .fieldLink RX12 128 "SilkMillModel" "laid" "[I", .methodLink RX12 168 yX12_within, .static yX12_within, .code yX12_within cX12_within 3 (some .boolean)] ++ wsX120)
def wsX12_number_ : List Cond := .code yX12_number_ cX12_number_ 3 (some .int) :: ([.fieldLink RX12 161 "SilkMillModel" "thrown" "I", .fieldLink RX12 134 "SilkMillModel" "wordMany" "[I", .fieldLink RX12 137 "SilkMillModel" "wordOf" "[I", .methodLink RX12 400 yX12_isWord, .instanceMethod yX12_isWord, .selects RX12 yX12_isWord yX12_isWord, .initialized RX12, .code yX12_isWord cX12_isWord 2 (some .boolean), .fieldLink RX12 125 "SilkMillModel" "isLaid" "[Z", .fieldLink RX12 128 "SilkMillModel" "laid" "[I", .methodLink RX12 168 yX12_within, .static yX12_within, .code yX12_within cX12_within 3 (some .boolean)] ++ wsX120)
def wsX12_price : List Cond := .code yX12_price cX12_price 3 (some .boolean) :: ([.fieldLink RX12 161 "SilkMillModel" "thrown" "I", .fieldLink RX12 119 "SilkMillModel" "price" "[I", .methodLink RX12 168 yX12_within, .static yX12_within, .initialized RX12, .code yX12_within cX12_within 3 (some .boolean)] ++ wsX120)
def wsX12_mix_r1 : List Cond := [Cond.fieldLink RX12 161 "SilkMillModel" "thrown" "I", Cond.fieldLink RX12 290 "SilkMillModel" "skeins" "I", Cond.fieldLink RX12 115 "SilkMillModel" "isSold" "[Z", Cond.fieldLink RX12 140 "SilkMillModel" "asked" "[I", Cond.fieldLink RX12 143 "SilkMillModel" "askedWeight" "[I", Cond.fieldLink RX12 146 "SilkMillModel" "askedPrice" "[I", Cond.fieldLink RX12 149 "SilkMillModel" "isMixed" "[Z", Cond.methodLink RX12 365 yX12_least, Cond.instanceMethod yX12_least, Cond.selects RX12 yX12_least yX12_least, Cond.initialized RX12, Cond.code yX12_least cX12_least 5 (some .int), Cond.fieldLink RX12 100 "SilkMillModel" "firstMetre" "[I", Cond.methodLink RX12 339 Lib.Math.max.name, Cond.static Lib.Math.max.name, Cond.initialized "java/lang/Math", Cond.code Lib.Math.max.name Lib.Math.max.code 2 (some .int), Cond.methodLink RX12 344 Lib.Math.min.name, Cond.static Lib.Math.min.name, Cond.code Lib.Math.min.name Lib.Math.min.code 2 (some .int), Cond.methodLink RX12 287 yX12_fineAt, Cond.instanceMethod yX12_fineAt, Cond.selects RX12 yX12_fineAt yX12_fineAt, Cond.code yX12_fineAt cX12_fineAt 4 (some .int)]
def wsX12_mix_r2 : List Cond := [Cond.fieldLink RX12 90 "SilkMillModel" "metreEnds" "[I", Cond.fieldLink RX12 94 "SilkMillModel" "drawn" "[I", Cond.methodLink RX12 183 yX12_fineOf, Cond.instanceMethod yX12_fineOf, Cond.selects RX12 yX12_fineOf yX12_fineOf, Cond.code yX12_fineOf cX12_fineOf 6 (some .int), Cond.fieldLink RX12 13 "SilkMillModel" "lotSeed" "[I", Cond.fieldLink RX12 16 "SilkMillModel" "lotBase" "[I", Cond.fieldLink RX12 34 "SilkMillModel" "thin" "[I", Cond.methodLink RX12 172 yX12_next, Cond.static yX12_next, Cond.code yX12_next cX12_next 1 (some .int), Cond.constant RX12 164 (1103515245), Cond.methodLink RX12 176 yX12_part, Cond.static yX12_part, Cond.code yX12_part cX12_part 2 (some .int), Cond.methodLink RX12 180 yX12_lengthOf, Cond.instanceMethod yX12_lengthOf, Cond.selects RX12 yX12_lengthOf yX12_lengthOf, Cond.code yX12_lengthOf cX12_lengthOf 4 (some .int), Cond.fieldLink RX12 19 "SilkMillModel" "lotLong" "[I", Cond.methodLink RX12 356 yX12_weightOf, Cond.instanceMethod yX12_weightOf, Cond.selects RX12 yX12_weightOf yX12_weightOf]
def wsX12_mix_r3 : List Cond := [Cond.code yX12_weightOf cX12_weightOf 2 (some .int), Cond.methodLink RX12 350 yX12_metres, Cond.instanceMethod yX12_metres, Cond.selects RX12 yX12_metres yX12_metres, Cond.code yX12_metres cX12_metres 2 (some .int), Cond.methodLink RX12 299 yX12_weight, Cond.instanceMethod yX12_weight, Cond.selects RX12 yX12_weight yX12_weight, Cond.code yX12_weight cX12_weight 5 (some .int), Cond.methodLink RX12 375 yX12_priceOf, Cond.instanceMethod yX12_priceOf, Cond.selects RX12 yX12_priceOf yX12_priceOf, Cond.code yX12_priceOf cX12_priceOf 2 (some .int), Cond.fieldLink RX12 119 "SilkMillModel" "price" "[I", Cond.methodLink RX12 359 yX12_gradeOf, Cond.instanceMethod yX12_gradeOf, Cond.selects RX12 yX12_gradeOf yX12_gradeOf, Cond.code yX12_gradeOf cX12_gradeOf 2 (some .int), Cond.fieldLink RX12 112 "SilkMillModel" "skeinGrade" "[I"]
def wsX12_mix : List Cond := .code yX12_mix cX12_mix 13 (some .int) :: ((wsX12_mix_r1 ++ (wsX12_mix_r2 ++ wsX12_mix_r3)) ++ wsX120)
def wsX12_mixed : List Cond := .code yX12_mixed cX12_mixed 2 (some .boolean) :: ([.fieldLink RX12 161 "SilkMillModel" "thrown" "I", .fieldLink RX12 149 "SilkMillModel" "isMixed" "[Z", .methodLink RX12 362 yX12_isSkein, .instanceMethod yX12_isSkein, .selects RX12 yX12_isSkein yX12_isSkein, .initialized RX12, .code yX12_isSkein cX12_isSkein 2 (some .boolean), .fieldLink RX12 290 "SilkMillModel" "skeins" "I", .methodLink RX12 168 yX12_within, .static yX12_within, .code yX12_within cX12_within 3 (some .boolean)] ++ wsX120)
def wsX12_day : List Cond := .code yX12_day cX12_day 1 (some .int) :: ([.fieldLink RX12 161 "SilkMillModel" "thrown" "I", .fieldLink RX12 302 "SilkMillModel" "today" "I"] ++ wsX120)
def wsX12_fault : List Cond := .code yX12_fault cX12_fault 3 (some .boolean) :: ([.fieldLink RX12 161 "SilkMillModel" "thrown" "I", .fieldLink RX12 403 "SilkMillModel" "faults" "I", .fieldLink RX12 152 "SilkMillModel" "faultOf" "[I", .fieldLink RX12 155 "SilkMillModel" "faultAmount" "[I", .fieldLink RX12 158 "SilkMillModel" "faultDay" "[I", .fieldLink RX12 302 "SilkMillModel" "today" "I", .methodLink RX12 362 yX12_isSkein, .instanceMethod yX12_isSkein, .selects RX12 yX12_isSkein yX12_isSkein, .initialized RX12, .code yX12_isSkein cX12_isSkein 2 (some .boolean), .fieldLink RX12 290 "SilkMillModel" "skeins" "I", .methodLink RX12 168 yX12_within, .static yX12_within, .code yX12_within cX12_within 3 (some .boolean)] ++ wsX120)
def wsX12_pay_r1 : List Cond := [Cond.fieldLink RX12 161 "SilkMillModel" "thrown" "I", Cond.fieldLink RX12 302 "SilkMillModel" "today" "I", Cond.fieldLink RX12 290 "SilkMillModel" "skeins" "I", Cond.fieldLink RX12 103 "SilkMillModel" "skeinPot" "[I", Cond.fieldLink RX12 106 "SilkMillModel" "skeinDay" "[I", Cond.fieldLink RX12 403 "SilkMillModel" "faults" "I", Cond.fieldLink RX12 152 "SilkMillModel" "faultOf" "[I", Cond.fieldLink RX12 158 "SilkMillModel" "faultDay" "[I", Cond.fieldLink RX12 155 "SilkMillModel" "faultAmount" "[I", Cond.methodLink RX12 200 yX12_isPot, Cond.instanceMethod yX12_isPot, Cond.selects RX12 yX12_isPot yX12_isPot, Cond.initialized RX12, Cond.code yX12_isPot cX12_isPot 2 (some .boolean), Cond.fieldLink RX12 197 "SilkMillModel" "pots" "I", Cond.methodLink RX12 168 yX12_within, Cond.static yX12_within, Cond.code yX12_within cX12_within 3 (some .boolean), Cond.methodLink RX12 375 yX12_priceOf, Cond.instanceMethod yX12_priceOf, Cond.selects RX12 yX12_priceOf yX12_priceOf, Cond.code yX12_priceOf cX12_priceOf 2 (some .int), Cond.fieldLink RX12 119 "SilkMillModel" "price" "[I", Cond.methodLink RX12 356 yX12_weightOf]
def wsX12_pay_r2 : List Cond := [Cond.instanceMethod yX12_weightOf, Cond.selects RX12 yX12_weightOf yX12_weightOf, Cond.code yX12_weightOf cX12_weightOf 2 (some .int), Cond.fieldLink RX12 100 "SilkMillModel" "firstMetre" "[I", Cond.methodLink RX12 350 yX12_metres, Cond.instanceMethod yX12_metres, Cond.selects RX12 yX12_metres yX12_metres, Cond.code yX12_metres cX12_metres 2 (some .int), Cond.methodLink RX12 299 yX12_weight, Cond.instanceMethod yX12_weight, Cond.selects RX12 yX12_weight yX12_weight, Cond.code yX12_weight cX12_weight 5 (some .int), Cond.methodLink RX12 287 yX12_fineAt, Cond.instanceMethod yX12_fineAt, Cond.selects RX12 yX12_fineAt yX12_fineAt, Cond.code yX12_fineAt cX12_fineAt 4 (some .int), Cond.fieldLink RX12 90 "SilkMillModel" "metreEnds" "[I", Cond.fieldLink RX12 94 "SilkMillModel" "drawn" "[I", Cond.methodLink RX12 183 yX12_fineOf, Cond.instanceMethod yX12_fineOf, Cond.selects RX12 yX12_fineOf yX12_fineOf, Cond.code yX12_fineOf cX12_fineOf 6 (some .int), Cond.fieldLink RX12 13 "SilkMillModel" "lotSeed" "[I", Cond.fieldLink RX12 16 "SilkMillModel" "lotBase" "[I"]
def wsX12_pay_r3 : List Cond := [Cond.fieldLink RX12 34 "SilkMillModel" "thin" "[I", Cond.methodLink RX12 172 yX12_next, Cond.static yX12_next, Cond.code yX12_next cX12_next 1 (some .int), Cond.constant RX12 164 (1103515245), Cond.methodLink RX12 176 yX12_part, Cond.static yX12_part, Cond.code yX12_part cX12_part 2 (some .int), Cond.methodLink RX12 180 yX12_lengthOf, Cond.instanceMethod yX12_lengthOf, Cond.selects RX12 yX12_lengthOf yX12_lengthOf, Cond.code yX12_lengthOf cX12_lengthOf 4 (some .int), Cond.fieldLink RX12 19 "SilkMillModel" "lotLong" "[I", Cond.methodLink RX12 359 yX12_gradeOf, Cond.instanceMethod yX12_gradeOf, Cond.selects RX12 yX12_gradeOf yX12_gradeOf, Cond.code yX12_gradeOf cX12_gradeOf 2 (some .int), Cond.fieldLink RX12 112 "SilkMillModel" "skeinGrade" "[I"]
def wsX12_pay : List Cond := .code yX12_pay cX12_pay 6 (some .int) :: ((wsX12_pay_r1 ++ (wsX12_pay_r2 ++ wsX12_pay_r3)) ++ wsX120)
def wsX12_count_r1 : List Cond := [Cond.fieldLink RX12 161 "SilkMillModel" "thrown" "I", Cond.fieldLink RX12 165 "SilkMillModel" "lots" "I", Cond.fieldLink RX12 197 "SilkMillModel" "pots" "I", Cond.fieldLink RX12 290 "SilkMillModel" "skeins" "I", Cond.fieldLink RX12 302 "SilkMillModel" "today" "I", Cond.fieldLink RX12 211 "SilkMillModel" "taped" "I", Cond.fieldLink RX12 403 "SilkMillModel" "faults" "I", Cond.fieldLink RX12 7 "SilkMillModel" "lotMany" "[I", Cond.fieldLink RX12 28 "SilkMillModel" "place" "[I", Cond.fieldLink RX12 100 "SilkMillModel" "firstMetre" "[I", Cond.fieldLink RX12 97 "SilkMillModel" "grown" "[I", Cond.fieldLink RX12 293 "SilkMillModel" "waste" "I", Cond.fieldLink RX12 25 "SilkMillModel" "stand" "[I", Cond.fieldLink RX12 125 "SilkMillModel" "isLaid" "[Z", Cond.methodLink RX12 190 yX12_silk, Cond.instanceMethod yX12_silk, Cond.selects RX12 yX12_silk yX12_silk, Cond.initialized RX12, Cond.code yX12_silk cX12_silk 6 (some .int), Cond.methodLink RX12 183 yX12_fineOf, Cond.instanceMethod yX12_fineOf, Cond.selects RX12 yX12_fineOf yX12_fineOf, Cond.code yX12_fineOf cX12_fineOf 6 (some .int), Cond.fieldLink RX12 13 "SilkMillModel" "lotSeed" "[I"]
def wsX12_count_r2 : List Cond := [Cond.fieldLink RX12 16 "SilkMillModel" "lotBase" "[I", Cond.fieldLink RX12 34 "SilkMillModel" "thin" "[I", Cond.methodLink RX12 172 yX12_next, Cond.static yX12_next, Cond.code yX12_next cX12_next 1 (some .int), Cond.constant RX12 164 (1103515245), Cond.methodLink RX12 176 yX12_part, Cond.static yX12_part, Cond.code yX12_part cX12_part 2 (some .int), Cond.methodLink RX12 180 yX12_lengthOf, Cond.instanceMethod yX12_lengthOf, Cond.selects RX12 yX12_lengthOf yX12_lengthOf, Cond.code yX12_lengthOf cX12_lengthOf 4 (some .int), Cond.fieldLink RX12 19 "SilkMillModel" "lotLong" "[I", Cond.methodLink RX12 299 yX12_weight, Cond.instanceMethod yX12_weight, Cond.selects RX12 yX12_weight yX12_weight, Cond.code yX12_weight cX12_weight 5 (some .int), Cond.methodLink RX12 287 yX12_fineAt, Cond.instanceMethod yX12_fineAt, Cond.selects RX12 yX12_fineAt yX12_fineAt, Cond.code yX12_fineAt cX12_fineAt 4 (some .int), Cond.fieldLink RX12 90 "SilkMillModel" "metreEnds" "[I", Cond.fieldLink RX12 94 "SilkMillModel" "drawn" "[I"]
def wsX12_count_r3 : List Cond := [Cond.methodLink RX12 296 yX12_growing, Cond.instanceMethod yX12_growing, Cond.selects RX12 yX12_growing yX12_growing, Cond.code yX12_growing cX12_growing 2 (some .int)]
def wsX12_count : List Cond := .code yX12_count cX12_count 4 (some .int) :: ((wsX12_count_r1 ++ (wsX12_count_r2 ++ wsX12_count_r3)) ++ wsX120)
def wsJ9_abs_0f7a4 : List Cond := .code yJ9_abs_0f7a4 cJ9_abs_0f7a4 1 (some .int) :: ([])
def wsJ9_max_7cf53 : List Cond := .code yJ9_max_7cf53 cJ9_max_7cf53 2 (some .int) :: ([])
def wsJ9_min_7cf53 : List Cond := .code yJ9_min_7cf53 cJ9_min_7cf53 2 (some .int) :: ([])
def wsL_fineness : List Cond := .codeWith yL_fineness cL_fineness 6 (some .int) [(0, 12, 15, 13)] :: ([.classLink RL 13 "java/lang/IndexOutOfBoundsException", .methodLink RL 7 yX11_fineness, .instanceMethod yX11_fineness, .selects RX11 yX11_fineness yX11_fineness, .initialized RX11, .code yX11_fineness cX11_fineness 5 (some .int), .classLink RX11 102 "java/lang/IndexOutOfBoundsException", .initialized "java/lang/IndexOutOfBoundsException", .fieldLink RX11 78 "SilkMill$Cocoon" "length" "I", .methodLink RX11 74 yX11_cocoonAt, .instanceMethod yX11_cocoonAt, .selects RX11 yX11_cocoonAt yX11_cocoonAt, .code yX11_cocoonAt cX11_cocoonAt 3 (some (.object "SilkMill$Cocoon")), .fieldLink RX11 63 "SilkMill" "lots" "I", .fieldLink RX11 15 "SilkMill" "lotSizes" "[I", .fieldLink RX11 11 "SilkMill" "cocoons" "[LSilkMill$Cocoon;", .methodLink RX11 87 yX0_finenessAt, .instanceMethod yX0_finenessAt, .selects RX0 yX0_finenessAt yX0_finenessAt, .initialized RX0, .code yX0_finenessAt cX0_finenessAt 2 (some .int), .fieldLink RX0 40 "SilkMill$Cocoon" "length" "I", .fieldLink RX0 43 "SilkMill$Cocoon" "base" "I"] ++ wsX00 ++ wsX110 ++ (vx_atS RX11 106 "java/lang/IndexOutOfBoundsException" ["java/lang/RuntimeException", "java/lang/Exception"]).filter goodWord)
def wsL_in_r1 : List Cond := [Cond.classLink RL 18 "java/util/NoSuchElementException", Cond.methodLink RL 15 yX11_in, Cond.instanceMethod yX11_in, Cond.selects RX11 yX11_in yX11_in, Cond.initialized RX11, Cond.code yX11_in cX11_in 7 (some .int), Cond.classLink RX11 219 "java/util/NoSuchElementException", Cond.initialized "java/util/NoSuchElementException", Cond.methodLink RX11 134 yX11_potAt, Cond.instanceMethod yX11_potAt, Cond.selects RX11 yX11_potAt yX11_potAt, Cond.code yX11_potAt cX11_potAt 2 (some (.object "SilkMill$Pot")), Cond.fieldLink RX11 124 "SilkMill" "potsMade" "I", Cond.fieldLink RX11 21 "SilkMill" "pots" "[LSilkMill$Pot;", Cond.methodLink RX11 211 yX4_rowNumbered, Cond.instanceMethod yX4_rowNumbered, Cond.selects RX4 yX4_rowNumbered yX4_rowNumbered, Cond.initialized RX4, Cond.code yX4_rowNumbered cX4_rowNumbered 2 (some (.object "SilkMill$Row")), Cond.fieldLink RX4 14 "SilkMill$Pot" "basket" "LSilkMill$Row;", Cond.fieldLink RX4 20 "SilkMill$Pot" "ends" "LSilkMill$Row;", Cond.fieldLink RX4 23 "SilkMill$Pot" "lost" "LSilkMill$Row;", Cond.methodLink RX11 215 yX5_at, Cond.instanceMethod yX5_at]
def wsL_in_r2 : List Cond := [Cond.selects RX5 yX5_at yX5_at, Cond.initialized RX5, Cond.code yX5_at cX5_at 2 (some (.object "SilkMill$Cocoon")), Cond.fieldLink RX5 23 "SilkMill$Row" "size" "I", Cond.fieldLink RX5 17 "SilkMill$Row" "cells" "[LSilkMill$Cocoon;", Cond.methodLink RX5 27 yX5_cellOf, Cond.instanceMethod yX5_cellOf, Cond.selects RX5 yX5_cellOf yX5_cellOf, Cond.code yX5_cellOf cX5_cellOf 3 (some .int), Cond.fieldLink RX5 31 "SilkMill$Row" "head" "I", Cond.methodLink RX11 224 yX0_code, Cond.instanceMethod yX0_code, Cond.selects RX0 yX0_code yX0_code, Cond.initialized RX0, Cond.code yX0_code cX0_code 1 (some .int), Cond.fieldLink RX0 18 "SilkMill$Cocoon" "lotNumber" "I", Cond.fieldLink RX0 21 "SilkMill$Cocoon" "index" "I"]
def wsL_in : List Cond := .codeWith yL_in cL_in 6 (some .int) [(0, 12, 15, 18)] :: ((wsL_in_r1 ++ wsL_in_r2) ++ wsX110 ++ wsX40 ++ wsX50 ++ wsX00 ++ (vx_atS RX11 223 "java/util/NoSuchElementException" ["java/lang/RuntimeException", "java/lang/Exception"]).filter goodWord)
abbrev vwCl : List vw_C := [(RX0, TX0, 10), (RX1, TX1, 4), (RX2, TX2, 8), (RX3, TX3, 5), (RX4, TX4, 12), (RX5, TX5, 3), (RX6, TX6, 7), (RX7, TX7, 10), (RX8, TX8, 13), (RX9, TX9, 9), (RX10, TX10, 7), (RX11, TX11, 12), (RX12, TX12, 66)]
end
section
/-! ===== the pool: addresses, kinds, int fields, reference fields, lengths, int rows, reference rows ===== -/
abbrev PS : Type := List Nat × (Nat → Nat) × (Nat → Nat → Int32) × (Nat → Nat → Option Nat) × (Nat → Nat) × (Nat → Nat → Int32) × (Nat → Nat → Option Nat)
def pL (S : PS) : List Nat := S.1
def pK (S : PS) : Nat → Nat := S.2.1
def pI (S : PS) : Nat → Nat → Int32 := S.2.2.1
def pR (S : PS) : Nat → Nat → Option Nat := S.2.2.2.1
def pN (S : PS) : Nat → Nat := S.2.2.2.2.1
def pA (S : PS) : Nat → Nat → Int32 := S.2.2.2.2.2.1
def pB (S : PS) : Nat → Nat → Option Nat := S.2.2.2.2.2.2
def u2 {α : Type} (f : Nat → Nat → α) (g a : Nat) (v : α) : Nat → Nat → α := fun x y => if x = g then (if y = a then v else f x y) else f x y
theorem u2_same {α : Type} (f : Nat → Nat → α) (g a : Nat) (v : α) : u2 f g a v g a = v := by simp [u2]
theorem u2_ne {α : Type} (f : Nat → Nat → α) {g a x y : Nat} (v : α) (h : y ≠ a) : u2 f g a v x y = f x y := by simp [u2, h]
theorem u2_nf {α : Type} (f : Nat → Nat → α) {g a x y : Nat} (v : α) (h : x ≠ g) : u2 f g a v x y = f x y := by simp [u2, h]
def sI (S : PS) (g a : Nat) (v : Int32) : PS := (pL S, pK S, u2 (pI S) g a v, pR S, pN S, pA S, pB S)
def sR (S : PS) (g a : Nat) (v : Option Nat) : PS := (pL S, pK S, pI S, u2 (pR S) g a v, pN S, pA S, pB S)
def sA (S : PS) (a : Nat) (f : Nat → Int32) : PS := (pL S, pK S, pI S, pR S, pN S, va_up (pA S) a f, pB S)
def sB (S : PS) (a : Nat) (f : Nat → Option Nat) : PS := (pL S, pK S, pI S, pR S, pN S, pA S, va_up (pB S) a f)
def sO (S : PS) (q k : Nat) : PS := (pL S ++ [q], va_up (pK S) q k, (fun g a => if a = q then 0 else pI S g a), (fun g a => if a = q then none else pR S g a), pN S, pA S, pB S)
def sN (S : PS) (q k n : Nat) : PS := (pL S ++ [q], va_up (pK S) q k, pI S, pR S, va_up (pN S) q n, va_up (pA S) q (fun _ => 0), va_up (pB S) q (fun _ => none))
def vals (S : PS) (a : Nat) (k : Nat) : List Value := match k with
  | 0 => [.int (pI S 0 a), .int (pI S 1 a), .int (pI S 2 a), .int (pI S 3 a), .int (pI S 4 a), .int (pI S 5 a), .int (pI S 6 a), .int (pI S 7 a), .int (pI S 8 a), .int (pI S 9 a)]
  | 1 => [va_rf (pR S 100 a), .int (pI S 101 a), .int (pI S 102 a), .int (pI S 103 a)]
  | 2 => [va_rf (pR S 200 a), va_rf (pR S 201 a), va_rf (pR S 202 a), .int (pI S 203 a), .int (pI S 204 a), .int (pI S 205 a), .int (pI S 206 a), .int (pI S 207 a)]
  | 3 => [.int (pI S 300 a), .int (pI S 301 a), va_rf (pR S 302 a), va_rf (pR S 303 a), .int (pI S 304 a)]
  | 4 => [va_rf (pR S 400 a), va_rf (pR S 401 a), va_rf (pR S 402 a), va_rf (pR S 403 a), .int (pI S 404 a), .int (pI S 405 a), .int (pI S 406 a), .int (pI S 407 a), .int (pI S 408 a), va_rf (pR S 409 a), .int (pI S 410 a), .int (pI S 411 a)]
  | 5 => [.int (pI S 500 a), va_rf (pR S 501 a), .int (pI S 502 a)]
  | 6 => [.int (pI S 600 a), va_rf (pR S 601 a), va_rf (pR S 602 a), va_rf (pR S 603 a), va_rf (pR S 604 a), va_rf (pR S 605 a), va_rf (pR S 606 a)]
  | 7 => [.int (pI S 700 a), .int (pI S 701 a), .int (pI S 702 a), va_rf (pR S 703 a), .int (pI S 704 a), .int (pI S 705 a), .int (pI S 706 a), .int (pI S 707 a), .int (pI S 708 a), .int (pI S 709 a)]
  | 8 => [.int (pI S 800 a), .int (pI S 801 a), .int (pI S 802 a), .int (pI S 803 a), .int (pI S 804 a), .int (pI S 805 a), .int (pI S 806 a), va_rf (pR S 807 a), va_rf (pR S 808 a), va_rf (pR S 809 a), va_rf (pR S 810 a), va_rf (pR S 811 a), va_rf (pR S 812 a)]
  | 9 => [va_rf (pR S 900 a), va_rf (pR S 901 a), .int (pI S 902 a), .int (pI S 903 a), .int (pI S 904 a), va_rf (pR S 905 a), va_rf (pR S 906 a), va_rf (pR S 907 a), va_rf (pR S 908 a)]
  | 10 => [.int (pI S 1000 a), .int (pI S 1001 a), .int (pI S 1002 a), va_rf (pR S 1003 a), .int (pI S 1004 a), .int (pI S 1005 a), .int (pI S 1006 a)]
  | 11 => [va_rf (pR S 1100 a), va_rf (pR S 1101 a), .int (pI S 1102 a), va_rf (pR S 1103 a), .int (pI S 1104 a), va_rf (pR S 1105 a), va_rf (pR S 1106 a), va_rf (pR S 1107 a), va_rf (pR S 1108 a), va_rf (pR S 1109 a), .int (pI S 1110 a), va_rf (pR S 1111 a)]
  | 12 => [.int (pI S 1200 a), .int (pI S 1201 a), va_rf (pR S 1202 a), va_rf (pR S 1203 a), va_rf (pR S 1204 a), va_rf (pR S 1205 a), va_rf (pR S 1206 a), va_rf (pR S 1207 a), va_rf (pR S 1208 a), va_rf (pR S 1209 a), va_rf (pR S 1210 a), .int (pI S 1211 a), va_rf (pR S 1212 a), va_rf (pR S 1213 a), va_rf (pR S 1214 a), va_rf (pR S 1215 a), va_rf (pR S 1216 a), va_rf (pR S 1217 a), va_rf (pR S 1218 a), va_rf (pR S 1219 a), va_rf (pR S 1220 a), va_rf (pR S 1221 a), va_rf (pR S 1222 a), va_rf (pR S 1223 a), va_rf (pR S 1224 a), va_rf (pR S 1225 a), va_rf (pR S 1226 a), va_rf (pR S 1227 a), .int (pI S 1228 a), .int (pI S 1229 a), .int (pI S 1230 a), .int (pI S 1231 a), .int (pI S 1232 a), .int (pI S 1233 a), .int (pI S 1234 a), va_rf (pR S 1235 a), va_rf (pR S 1236 a), va_rf (pR S 1237 a), .int (pI S 1238 a), va_rf (pR S 1239 a), va_rf (pR S 1240 a), va_rf (pR S 1241 a), va_rf (pR S 1242 a), va_rf (pR S 1243 a), va_rf (pR S 1244 a), .int (pI S 1245 a), .int (pI S 1246 a), .int (pI S 1247 a), va_rf (pR S 1248 a), .int (pI S 1249 a), .int (pI S 1250 a), .int (pI S 1251 a), va_rf (pR S 1252 a), va_rf (pR S 1253 a), va_rf (pR S 1254 a), va_rf (pR S 1255 a), va_rf (pR S 1256 a), va_rf (pR S 1257 a), va_rf (pR S 1258 a), va_rf (pR S 1259 a), va_rf (pR S 1260 a), va_rf (pR S 1261 a), .int (pI S 1262 a), va_rf (pR S 1263 a), va_rf (pR S 1264 a), va_rf (pR S 1265 a)]
  | _ => []
def PF (cy : Nat → ClassId) (S : PS) (a : Nat) : va_E := if pK S a < 13 then .inr (pK S a, vals S a (pK S a)) else if pK S a < 16 then .inl (cy (pK S a - 13), pN S a, .inl (pA S a)) else .inl (cy (pK S a - 13), pN S a, .inr (.inr (.inr (.inr (pB S a)))))
theorem PF_O {cy : Nat → ClassId} {S : PS} {a k : Nat} (h : pK S a = k) (hk : k < 13) : PF cy S a = .inr (k, vals S a k) := by simp [PF, h, hk]
theorem PF_A {cy : Nat → ClassId} {S : PS} {a k : Nat} (h : pK S a = k) (h1 : 13 ≤ k) (h2 : k < 16) : PF cy S a = .inl (cy (k - 13), pN S a, .inl (pA S a)) := by simp [PF, h, Nat.not_lt.mpr h1, h2]
theorem PF_B {cy : Nat → ClassId} {S : PS} {a k : Nat} (h : pK S a = k) (h1 : 16 ≤ k) : PF cy S a = .inl (cy (k - 13), pN S a, .inr (.inr (.inr (.inr (pB S a))))) := by simp [PF, h, show ¬ k < 13 by omega, Nat.not_lt.mpr h1]
theorem vals_congr {S S' : PS} {b : Nat} (h1 : ∀ g, pI S' g b = pI S g b) (h2 : ∀ g, pR S' g b = pR S g b) (k : Nat) : vals S' b k = vals S b k := by
  unfold vals
  split <;> simp [h1, h2]
theorem PF_congr {cy : Nat → ClassId} {S S' : PS} {b : Nat} (h0 : pK S' b = pK S b) (h1 : ∀ g, pI S' g b = pI S g b) (h2 : ∀ g, pR S' g b = pR S g b) (h3 : pN S' b = pN S b) (h4 : pA S' b = pA S b) (h5 : pB S' b = pB S b) : PF cy S' b = PF cy S b := by
  simp only [PF, h0, h3, h4, h5, vals_congr h1 h2]
theorem PF_sI {cy : Nat → ClassId} {S : PS} {a k g j : Nat} {v : Int32} (h : pK S a = k) (hk : k < 13) (hset : vals (sI S g a v) a k = (vals S a k).set j (.int v)) (b : Nat) : va_up (PF cy S) a (.inr (k, (vals S a k).set j (.int v))) b = PF cy (sI S g a v) b := by
  by_cases hb : b = a
  · subst hb
    rw [PF_O (S := sI S g b v) (k := k) h hk, hset]; simp [va_up]
  · rw [PF_congr (S := S) (S' := sI S g a v) rfl (fun x => u2_ne _ _ hb) (fun _ => rfl) rfl rfl rfl]; simp [va_up, hb]
theorem PF_sR {cy : Nat → ClassId} {S : PS} {a k g j : Nat} {v : Option Nat} (h : pK S a = k) (hk : k < 13) (hset : vals (sR S g a v) a k = (vals S a k).set j (va_rf v)) (b : Nat) : va_up (PF cy S) a (.inr (k, (vals S a k).set j (va_rf v))) b = PF cy (sR S g a v) b := by
  by_cases hb : b = a
  · subst hb
    rw [PF_O (S := sR S g b v) (k := k) h hk, hset]; simp [va_up]
  · rw [PF_congr (S := S) (S' := sR S g a v) rfl (fun _ => rfl) (fun x => u2_ne _ _ hb) rfl rfl rfl]; simp [va_up, hb]
theorem PF_sA {cy : Nat → ClassId} {S : PS} {a k : Nat} {f : Nat → Int32} (h : pK S a = k) (h1 : 13 ≤ k) (h2 : k < 16) (b : Nat) : va_up (PF cy S) a (.inl (cy (k - 13), pN S a, .inl f)) b = PF cy (sA S a f) b := by
  by_cases hb : b = a
  · subst hb
    rw [PF_A (S := sA S b f) (k := k) h h1 h2]; simp [va_up, sA, pA, pN]
  · rw [PF_congr (S := S) (S' := sA S a f) rfl (fun _ => rfl) (fun _ => rfl) rfl (by simp [sA, pA, va_up, hb]) rfl]; simp [va_up, hb]
theorem PF_sB {cy : Nat → ClassId} {S : PS} {a k : Nat} {f : Nat → Option Nat} (h : pK S a = k) (h1 : 16 ≤ k) (b : Nat) : va_up (PF cy S) a (.inl (cy (k - 13), pN S a, .inr (.inr (.inr (.inr f))))) b = PF cy (sB S a f) b := by
  by_cases hb : b = a
  · subst hb
    rw [PF_B (S := sB S b f) (k := k) h h1]; simp [va_up, sB, pB, pN]
  · rw [PF_congr (S := S) (S' := sB S a f) rfl (fun _ => rfl) (fun _ => rfl) rfl rfl (by simp [sB, pB, va_up, hb])]; simp [va_up, hb]
theorem PF_sO {cy : Nat → ClassId} {S : PS} {q k : Nat} (hk : k < 13) {z : List Value} (hz : vals (sO S q k) q k = z) (b : Nat) : va_up (PF cy S) q (.inr (k, z)) b = PF cy (sO S q k) b := by
  by_cases hb : b = q
  · subst hb
    rw [PF_O (S := sO S b k) (k := k) (by simp [sO, pK, va_up]) hk, hz]; simp [va_up]
  · rw [PF_congr (S := S) (S' := sO S q k) (by simp [sO, pK, va_up, hb]) (fun _ => by simp [sO, pI, hb]) (fun _ => by simp [sO, pR, hb]) rfl rfl rfl]; simp [va_up, hb]
theorem PF_sNA {cy : Nat → ClassId} {S : PS} {q k n : Nat} (h1 : 13 ≤ k) (h2 : k < 16) (b : Nat) : va_up (PF cy S) q (.inl (cy (k - 13), n, .inl (fun _ => 0))) b = PF cy (sN S q k n) b := by
  by_cases hb : b = q
  · subst hb
    rw [PF_A (S := sN S b k n) (k := k) (by simp [sN, pK, va_up]) h1 h2]; simp [va_up, sN, pA, pN]
  · rw [PF_congr (S := S) (S' := sN S q k n) (by simp [sN, pK, va_up, hb]) (fun _ => rfl) (fun _ => rfl) (by simp [sN, pN, va_up, hb]) (by simp [sN, pA, va_up, hb]) (by simp [sN, pB, va_up, hb])]; simp [va_up, hb]
theorem PF_sNB {cy : Nat → ClassId} {S : PS} {q k n : Nat} (h1 : 16 ≤ k) (b : Nat) : va_up (PF cy S) q (.inl (cy (k - 13), n, .inr (.inr (.inr (.inr (fun _ => none)))))) b = PF cy (sN S q k n) b := by
  by_cases hb : b = q
  · subst hb
    rw [PF_B (S := sN S b k n) (k := k) (by simp [sN, pK, va_up]) h1]; simp [va_up, sN, pB, pN]
  · rw [PF_congr (S := S) (S' := sN S q k n) (by simp [sN, pK, va_up, hb]) (fun _ => rfl) (fun _ => rfl) (by simp [sN, pN, va_up, hb]) (by simp [sN, pA, va_up, hb]) (by simp [sN, pB, va_up, hb])]; simp [va_up, hb]
/-! ===== the world ===== -/
def pool (cy : Nat → ClassId) (S : PS) : va_W := va_pl (pL S) (PF cy S)
def tysL (cy : Nat → ClassId) : List (ClassId × FieldType) := [(cy 0, .byte), (cy 1, .int), (cy 2, .boolean), (cy 3, .object "SilkMill$Cocoon"), (cy 4, .object "SilkMill$Place"), (cy 5, .object "SilkMill$Pot"), (cy 6, .object "SilkMill$Skein")]
def Wd (G : va_G) (cy : Nat → ClassId) (A : Nat → Prop) (H0 : Heap) (S : PS) (H : Heap) (locs : List Loc) : Prop := va_P G vwCl (pool cy S) H ∧ va_D A (pool cy S) ∧ va_S A H0 H locs
def At (S : PS) (a k : Nat) : Prop := a ∈ pL S ∧ pK S a = k
def AS (S : PS) (sz : Nat) : Nat → Prop := fun q => q ∈ pL S ∨ sz ≤ q
def Cx (p : Program) (c : Code) (cc : ByteArray) (nL : Nat) (s : State) (args : Array Value) (Ts : List Cond) (own : String) (m : MethodId) (G : va_G) (cy : Nat → ClassId) (A : Nat → Prop) : Prop :=
  p.tables.exec = Jvm.exec ∧ c.code = cc ∧ c.maxLocals = nL ∧ (∀ w ∈ Ts, w.before args s = true) ∧ s.vm.findClass own = some m.cls ∧ va_K G vwCl (tysL cy) s ∧ ∀ q, s.heap.size ≤ q → A q
theorem pl_get {cy : Nat → ClassId} {S : PS} {a : Nat} (h : a ∈ pL S) : ∃ k : Nat, (pool cy S)[k]? = some (a, PF cy S a) := by
  obtain ⟨k, hk⟩ := va_pl_get (X := []) (f := PF cy S) h
  exact ⟨k, hk⟩
theorem pl_set {A : Nat → Prop} {cy : Nat → ClassId} {S S' : PS} {a k : Nat} {e : va_E} (hD : va_D A (pool cy S)) (h : a ∈ pL S) (hk : (pool cy S)[k]? = some (a, PF cy S a)) (hL : pL S' = pL S) (hF : ∀ b, va_up (PF cy S) a e b = PF cy S' b) : (pool cy S).set k (a, e) = pool cy S' := by
  have h1 := va_pl_set (X := []) (e := e) hD h hk
  have h2 : (pool cy S).set k (a, e) = va_pl (pL S) (va_up (PF cy S) a e) := h1
  rw [h2, va_pl_congr hF]; unfold pool; rw [hL]
theorem pl_push {cy : Nat → ClassId} {S S' : PS} {q : Nat} {e : va_E} (hq : q ∉ pL S) (hL : pL S' = pL S ++ [q]) (hF : ∀ b, va_up (PF cy S) q e b = PF cy S' b) : pool cy S ++ [(q, e)] = pool cy S' := by
  have h1 : pool cy S ++ [(q, e)] = va_pl (pL S ++ [q]) (va_up (PF cy S) q e) := va_pl_push hq
  rw [h1, va_pl_congr hF]; unfold pool; rw [hL]
theorem pl_mem {cy : Nat → ClassId} {S : PS} {k : Nat} {q : Nat × va_E} (h : (pool cy S)[k]? = some q) : q.1 ∈ pL S := by
  have := List.mem_of_getElem? h
  simp only [pool, va_pl, List.mem_map] at this
  obtain ⟨a, h1, rfl⟩ := this
  exact h1
theorem Wd.lt {G : va_G} {cy : Nat → ClassId} {A : Nat → Prop} {H0 H : Heap} {S : PS} {locs : List Loc} (hw : Wd G cy A H0 S H locs) {a : Nat} (h : a ∈ pL S) : a < H.size := by
  obtain ⟨k, hk⟩ := pl_get (cy := cy) h
  exact (hw.1 k _ hk).lt
theorem At_sI {S : PS} {a k g b : Nat} {v : Int32} (h : At S a k) : At (sI S g b v) a k := h
theorem At_sR {S : PS} {a k g b : Nat} {v : Option Nat} (h : At S a k) : At (sR S g b v) a k := h
theorem At_sA {S : PS} {a k b : Nat} {f : Nat → Int32} (h : At S a k) : At (sA S b f) a k := h
theorem At_sB {S : PS} {a k b : Nat} {f : Nat → Option Nat} (h : At S a k) : At (sB S b f) a k := h
theorem At_ne {S : PS} {a b k k' : Nat} (h : At S a k) (h' : At S b k') (hk : k ≠ k') : a ≠ b := fun e => hk (by rw [← h.2, ← h'.2, e])
theorem At_old {S : PS} {a k q : Nat} (h : At S a k) (hq : q ∉ pL S) : a ≠ q := fun e => hq (e ▸ h.1)
theorem At_sO {S : PS} {a k q k' : Nat} (h : At S a k) (hq : q ∉ pL S) : At (sO S q k') a k := ⟨List.mem_append_left _ h.1, by
  have := At_old h hq
  simp [sO, pK, va_up, this]; exact h.2⟩
theorem At_nO (S : PS) (q k : Nat) : At (sO S q k) q k := ⟨List.mem_append_right _ (List.mem_singleton.mpr rfl), by simp [sO, pK, va_up]⟩
theorem At_sN {S : PS} {a k q k' n : Nat} (h : At S a k) (hq : q ∉ pL S) : At (sN S q k' n) a k := ⟨List.mem_append_left _ h.1, by
  have := At_old h hq
  simp [sN, pK, va_up, this]; exact h.2⟩
theorem At_nN (S : PS) (q k n : Nat) : At (sN S q k n) q k := ⟨List.mem_append_right _ (List.mem_singleton.mpr rfl), by simp [sN, pK, va_up]⟩
theorem st_0 (S : PS) (a : Nat) (v : Int32) : vals (sI S 0 a v) a 0 = (vals S a 0).set 0 (.int v) := by simp [vals, sI, u2, pI, pR]
theorem st_1 (S : PS) (a : Nat) (v : Int32) : vals (sI S 1 a v) a 0 = (vals S a 0).set 1 (.int v) := by simp [vals, sI, u2, pI, pR]
theorem st_2 (S : PS) (a : Nat) (v : Int32) : vals (sI S 2 a v) a 0 = (vals S a 0).set 2 (.int v) := by simp [vals, sI, u2, pI, pR]
theorem st_3 (S : PS) (a : Nat) (v : Int32) : vals (sI S 3 a v) a 0 = (vals S a 0).set 3 (.int v) := by simp [vals, sI, u2, pI, pR]
theorem st_4 (S : PS) (a : Nat) (v : Int32) : vals (sI S 4 a v) a 0 = (vals S a 0).set 4 (.int v) := by simp [vals, sI, u2, pI, pR]
theorem st_5 (S : PS) (a : Nat) (v : Int32) : vals (sI S 5 a v) a 0 = (vals S a 0).set 5 (.int v) := by simp [vals, sI, u2, pI, pR]
theorem st_6 (S : PS) (a : Nat) (v : Int32) : vals (sI S 6 a v) a 0 = (vals S a 0).set 6 (.int v) := by simp [vals, sI, u2, pI, pR]
theorem st_7 (S : PS) (a : Nat) (v : Int32) : vals (sI S 7 a v) a 0 = (vals S a 0).set 7 (.int v) := by simp [vals, sI, u2, pI, pR]
theorem st_8 (S : PS) (a : Nat) (v : Int32) : vals (sI S 8 a v) a 0 = (vals S a 0).set 8 (.int v) := by simp [vals, sI, u2, pI, pR]
theorem st_9 (S : PS) (a : Nat) (v : Int32) : vals (sI S 9 a v) a 0 = (vals S a 0).set 9 (.int v) := by simp [vals, sI, u2, pI, pR]
theorem gv_0 (S : PS) (a : Nat) : (vals S a 0)[0]? = some (.int (pI S 0 a)) := rfl
theorem gv_1 (S : PS) (a : Nat) : (vals S a 0)[1]? = some (.int (pI S 1 a)) := rfl
theorem gv_2 (S : PS) (a : Nat) : (vals S a 0)[2]? = some (.int (pI S 2 a)) := rfl
theorem gv_3 (S : PS) (a : Nat) : (vals S a 0)[3]? = some (.int (pI S 3 a)) := rfl
theorem gv_4 (S : PS) (a : Nat) : (vals S a 0)[4]? = some (.int (pI S 4 a)) := rfl
theorem gv_5 (S : PS) (a : Nat) : (vals S a 0)[5]? = some (.int (pI S 5 a)) := rfl
theorem gv_6 (S : PS) (a : Nat) : (vals S a 0)[6]? = some (.int (pI S 6 a)) := rfl
theorem gv_7 (S : PS) (a : Nat) : (vals S a 0)[7]? = some (.int (pI S 7 a)) := rfl
theorem gv_8 (S : PS) (a : Nat) : (vals S a 0)[8]? = some (.int (pI S 8 a)) := rfl
theorem gv_9 (S : PS) (a : Nat) : (vals S a 0)[9]? = some (.int (pI S 9 a)) := rfl
theorem zo_0 (S : PS) (q : Nat) : vals (sO S q 0) q 0 = [.int 0, .int 0, .int 0, .int 0, .int 0, .int 0, .int 0, .int 0, .int 0, .int 0] := by simp [vals, sO, pI, pR, va_rf]
theorem zd_0 : ∀ j, j < 10 → defaultValue (tyX0 j) = vp_V [.int 0, .int 0, .int 0, .int 0, .int 0, .int 0, .int 0, .int 0, .int 0, .int 0] j := by
  intro j hj
  have : ∀ j : Fin 10, defaultValue (tyX0 j) = vp_V [.int 0, .int 0, .int 0, .int 0, .int 0, .int 0, .int 0, .int 0, .int 0, .int 0] j := by decide +kernel
  exact this ⟨j, hj⟩
theorem st_100 (S : PS) (a : Nat) (v : Option Nat) : vals (sR S 100 a v) a 1 = (vals S a 1).set 0 (va_rf v) := by simp [vals, sR, u2, pR, pI]
theorem st_101 (S : PS) (a : Nat) (v : Int32) : vals (sI S 101 a v) a 1 = (vals S a 1).set 1 (.int v) := by simp [vals, sI, u2, pI, pR]
theorem st_102 (S : PS) (a : Nat) (v : Int32) : vals (sI S 102 a v) a 1 = (vals S a 1).set 2 (.int v) := by simp [vals, sI, u2, pI, pR]
theorem st_103 (S : PS) (a : Nat) (v : Int32) : vals (sI S 103 a v) a 1 = (vals S a 1).set 3 (.int v) := by simp [vals, sI, u2, pI, pR]
theorem gv_100 (S : PS) (a : Nat) : (vals S a 1)[0]? = some (va_rf (pR S 100 a)) := rfl
theorem gv_101 (S : PS) (a : Nat) : (vals S a 1)[1]? = some (.int (pI S 101 a)) := rfl
theorem gv_102 (S : PS) (a : Nat) : (vals S a 1)[2]? = some (.int (pI S 102 a)) := rfl
theorem gv_103 (S : PS) (a : Nat) : (vals S a 1)[3]? = some (.int (pI S 103 a)) := rfl
theorem zo_1 (S : PS) (q : Nat) : vals (sO S q 1) q 1 = [.null, .int 0, .int 0, .int 0] := by simp [vals, sO, pI, pR, va_rf]
theorem zd_1 : ∀ j, j < 4 → defaultValue (tyX1 j) = vp_V [.null, .int 0, .int 0, .int 0] j := by
  intro j hj
  have : ∀ j : Fin 4, defaultValue (tyX1 j) = vp_V [.null, .int 0, .int 0, .int 0] j := by decide +kernel
  exact this ⟨j, hj⟩
theorem st_200 (S : PS) (a : Nat) (v : Option Nat) : vals (sR S 200 a v) a 2 = (vals S a 2).set 0 (va_rf v) := by simp [vals, sR, u2, pR, pI]
theorem st_201 (S : PS) (a : Nat) (v : Option Nat) : vals (sR S 201 a v) a 2 = (vals S a 2).set 1 (va_rf v) := by simp [vals, sR, u2, pR, pI]
theorem st_202 (S : PS) (a : Nat) (v : Option Nat) : vals (sR S 202 a v) a 2 = (vals S a 2).set 2 (va_rf v) := by simp [vals, sR, u2, pR, pI]
theorem st_203 (S : PS) (a : Nat) (v : Int32) : vals (sI S 203 a v) a 2 = (vals S a 2).set 3 (.int v) := by simp [vals, sI, u2, pI, pR]
theorem st_204 (S : PS) (a : Nat) (v : Int32) : vals (sI S 204 a v) a 2 = (vals S a 2).set 4 (.int v) := by simp [vals, sI, u2, pI, pR]
theorem st_205 (S : PS) (a : Nat) (v : Int32) : vals (sI S 205 a v) a 2 = (vals S a 2).set 5 (.int v) := by simp [vals, sI, u2, pI, pR]
theorem st_206 (S : PS) (a : Nat) (v : Int32) : vals (sI S 206 a v) a 2 = (vals S a 2).set 6 (.int v) := by simp [vals, sI, u2, pI, pR]
theorem st_207 (S : PS) (a : Nat) (v : Int32) : vals (sI S 207 a v) a 2 = (vals S a 2).set 7 (.int v) := by simp [vals, sI, u2, pI, pR]
theorem gv_200 (S : PS) (a : Nat) : (vals S a 2)[0]? = some (va_rf (pR S 200 a)) := rfl
theorem gv_201 (S : PS) (a : Nat) : (vals S a 2)[1]? = some (va_rf (pR S 201 a)) := rfl
theorem gv_202 (S : PS) (a : Nat) : (vals S a 2)[2]? = some (va_rf (pR S 202 a)) := rfl
theorem gv_203 (S : PS) (a : Nat) : (vals S a 2)[3]? = some (.int (pI S 203 a)) := rfl
theorem gv_204 (S : PS) (a : Nat) : (vals S a 2)[4]? = some (.int (pI S 204 a)) := rfl
theorem gv_205 (S : PS) (a : Nat) : (vals S a 2)[5]? = some (.int (pI S 205 a)) := rfl
theorem gv_206 (S : PS) (a : Nat) : (vals S a 2)[6]? = some (.int (pI S 206 a)) := rfl
theorem gv_207 (S : PS) (a : Nat) : (vals S a 2)[7]? = some (.int (pI S 207 a)) := rfl
theorem zo_2 (S : PS) (q : Nat) : vals (sO S q 2) q 2 = [.null, .null, .null, .int 0, .int 0, .int 0, .int 0, .int 0] := by simp [vals, sO, pI, pR, va_rf]
theorem zd_2 : ∀ j, j < 8 → defaultValue (tyX2 j) = vp_V [.null, .null, .null, .int 0, .int 0, .int 0, .int 0, .int 0] j := by
  intro j hj
  have : ∀ j : Fin 8, defaultValue (tyX2 j) = vp_V [.null, .null, .null, .int 0, .int 0, .int 0, .int 0, .int 0] j := by decide +kernel
  exact this ⟨j, hj⟩
theorem st_300 (S : PS) (a : Nat) (v : Int32) : vals (sI S 300 a v) a 3 = (vals S a 3).set 0 (.int v) := by simp [vals, sI, u2, pI, pR]
theorem st_301 (S : PS) (a : Nat) (v : Int32) : vals (sI S 301 a v) a 3 = (vals S a 3).set 1 (.int v) := by simp [vals, sI, u2, pI, pR]
theorem st_302 (S : PS) (a : Nat) (v : Option Nat) : vals (sR S 302 a v) a 3 = (vals S a 3).set 2 (va_rf v) := by simp [vals, sR, u2, pR, pI]
theorem st_303 (S : PS) (a : Nat) (v : Option Nat) : vals (sR S 303 a v) a 3 = (vals S a 3).set 3 (va_rf v) := by simp [vals, sR, u2, pR, pI]
theorem st_304 (S : PS) (a : Nat) (v : Int32) : vals (sI S 304 a v) a 3 = (vals S a 3).set 4 (.int v) := by simp [vals, sI, u2, pI, pR]
theorem gv_300 (S : PS) (a : Nat) : (vals S a 3)[0]? = some (.int (pI S 300 a)) := rfl
theorem gv_301 (S : PS) (a : Nat) : (vals S a 3)[1]? = some (.int (pI S 301 a)) := rfl
theorem gv_302 (S : PS) (a : Nat) : (vals S a 3)[2]? = some (va_rf (pR S 302 a)) := rfl
theorem gv_303 (S : PS) (a : Nat) : (vals S a 3)[3]? = some (va_rf (pR S 303 a)) := rfl
theorem gv_304 (S : PS) (a : Nat) : (vals S a 3)[4]? = some (.int (pI S 304 a)) := rfl
theorem zo_3 (S : PS) (q : Nat) : vals (sO S q 3) q 3 = [.int 0, .int 0, .null, .null, .int 0] := by simp [vals, sO, pI, pR, va_rf]
theorem zd_3 : ∀ j, j < 5 → defaultValue (tyX3 j) = vp_V [.int 0, .int 0, .null, .null, .int 0] j := by
  intro j hj
  have : ∀ j : Fin 5, defaultValue (tyX3 j) = vp_V [.int 0, .int 0, .null, .null, .int 0] j := by decide +kernel
  exact this ⟨j, hj⟩
theorem st_400 (S : PS) (a : Nat) (v : Option Nat) : vals (sR S 400 a v) a 4 = (vals S a 4).set 0 (va_rf v) := by simp [vals, sR, u2, pR, pI]
theorem st_401 (S : PS) (a : Nat) (v : Option Nat) : vals (sR S 401 a v) a 4 = (vals S a 4).set 1 (va_rf v) := by simp [vals, sR, u2, pR, pI]
theorem st_402 (S : PS) (a : Nat) (v : Option Nat) : vals (sR S 402 a v) a 4 = (vals S a 4).set 2 (va_rf v) := by simp [vals, sR, u2, pR, pI]
theorem st_403 (S : PS) (a : Nat) (v : Option Nat) : vals (sR S 403 a v) a 4 = (vals S a 4).set 3 (va_rf v) := by simp [vals, sR, u2, pR, pI]
theorem st_404 (S : PS) (a : Nat) (v : Int32) : vals (sI S 404 a v) a 4 = (vals S a 4).set 4 (.int v) := by simp [vals, sI, u2, pI, pR]
theorem st_405 (S : PS) (a : Nat) (v : Int32) : vals (sI S 405 a v) a 4 = (vals S a 4).set 5 (.int v) := by simp [vals, sI, u2, pI, pR]
theorem st_406 (S : PS) (a : Nat) (v : Int32) : vals (sI S 406 a v) a 4 = (vals S a 4).set 6 (.int v) := by simp [vals, sI, u2, pI, pR]
theorem st_407 (S : PS) (a : Nat) (v : Int32) : vals (sI S 407 a v) a 4 = (vals S a 4).set 7 (.int v) := by simp [vals, sI, u2, pI, pR]
theorem st_408 (S : PS) (a : Nat) (v : Int32) : vals (sI S 408 a v) a 4 = (vals S a 4).set 8 (.int v) := by simp [vals, sI, u2, pI, pR]
theorem st_409 (S : PS) (a : Nat) (v : Option Nat) : vals (sR S 409 a v) a 4 = (vals S a 4).set 9 (va_rf v) := by simp [vals, sR, u2, pR, pI]
theorem st_410 (S : PS) (a : Nat) (v : Int32) : vals (sI S 410 a v) a 4 = (vals S a 4).set 10 (.int v) := by simp [vals, sI, u2, pI, pR]
theorem st_411 (S : PS) (a : Nat) (v : Int32) : vals (sI S 411 a v) a 4 = (vals S a 4).set 11 (.int v) := by simp [vals, sI, u2, pI, pR]
theorem gv_400 (S : PS) (a : Nat) : (vals S a 4)[0]? = some (va_rf (pR S 400 a)) := rfl
theorem gv_401 (S : PS) (a : Nat) : (vals S a 4)[1]? = some (va_rf (pR S 401 a)) := rfl
theorem gv_402 (S : PS) (a : Nat) : (vals S a 4)[2]? = some (va_rf (pR S 402 a)) := rfl
theorem gv_403 (S : PS) (a : Nat) : (vals S a 4)[3]? = some (va_rf (pR S 403 a)) := rfl
theorem gv_404 (S : PS) (a : Nat) : (vals S a 4)[4]? = some (.int (pI S 404 a)) := rfl
theorem gv_405 (S : PS) (a : Nat) : (vals S a 4)[5]? = some (.int (pI S 405 a)) := rfl
theorem gv_406 (S : PS) (a : Nat) : (vals S a 4)[6]? = some (.int (pI S 406 a)) := rfl
theorem gv_407 (S : PS) (a : Nat) : (vals S a 4)[7]? = some (.int (pI S 407 a)) := rfl
theorem gv_408 (S : PS) (a : Nat) : (vals S a 4)[8]? = some (.int (pI S 408 a)) := rfl
theorem gv_409 (S : PS) (a : Nat) : (vals S a 4)[9]? = some (va_rf (pR S 409 a)) := rfl
theorem gv_410 (S : PS) (a : Nat) : (vals S a 4)[10]? = some (.int (pI S 410 a)) := rfl
theorem gv_411 (S : PS) (a : Nat) : (vals S a 4)[11]? = some (.int (pI S 411 a)) := rfl
theorem zo_4 (S : PS) (q : Nat) : vals (sO S q 4) q 4 = [.null, .null, .null, .null, .int 0, .int 0, .int 0, .int 0, .int 0, .null, .int 0, .int 0] := by simp [vals, sO, pI, pR, va_rf]
theorem zd_4 : ∀ j, j < 12 → defaultValue (tyX4 j) = vp_V [.null, .null, .null, .null, .int 0, .int 0, .int 0, .int 0, .int 0, .null, .int 0, .int 0] j := by
  intro j hj
  have : ∀ j : Fin 12, defaultValue (tyX4 j) = vp_V [.null, .null, .null, .null, .int 0, .int 0, .int 0, .int 0, .int 0, .null, .int 0, .int 0] j := by decide +kernel
  exact this ⟨j, hj⟩
theorem st_500 (S : PS) (a : Nat) (v : Int32) : vals (sI S 500 a v) a 5 = (vals S a 5).set 0 (.int v) := by simp [vals, sI, u2, pI, pR]
theorem st_501 (S : PS) (a : Nat) (v : Option Nat) : vals (sR S 501 a v) a 5 = (vals S a 5).set 1 (va_rf v) := by simp [vals, sR, u2, pR, pI]
theorem st_502 (S : PS) (a : Nat) (v : Int32) : vals (sI S 502 a v) a 5 = (vals S a 5).set 2 (.int v) := by simp [vals, sI, u2, pI, pR]
theorem gv_500 (S : PS) (a : Nat) : (vals S a 5)[0]? = some (.int (pI S 500 a)) := rfl
theorem gv_501 (S : PS) (a : Nat) : (vals S a 5)[1]? = some (va_rf (pR S 501 a)) := rfl
theorem gv_502 (S : PS) (a : Nat) : (vals S a 5)[2]? = some (.int (pI S 502 a)) := rfl
theorem zo_5 (S : PS) (q : Nat) : vals (sO S q 5) q 5 = [.int 0, .null, .int 0] := by simp [vals, sO, pI, pR, va_rf]
theorem zd_5 : ∀ j, j < 3 → defaultValue (tyX5 j) = vp_V [.int 0, .null, .int 0] j := by
  intro j hj
  have : ∀ j : Fin 3, defaultValue (tyX5 j) = vp_V [.int 0, .null, .int 0] j := by decide +kernel
  exact this ⟨j, hj⟩
theorem st_600 (S : PS) (a : Nat) (v : Int32) : vals (sI S 600 a v) a 6 = (vals S a 6).set 0 (.int v) := by simp [vals, sI, u2, pI, pR]
theorem st_601 (S : PS) (a : Nat) (v : Option Nat) : vals (sR S 601 a v) a 6 = (vals S a 6).set 1 (va_rf v) := by simp [vals, sR, u2, pR, pI]
theorem st_602 (S : PS) (a : Nat) (v : Option Nat) : vals (sR S 602 a v) a 6 = (vals S a 6).set 2 (va_rf v) := by simp [vals, sR, u2, pR, pI]
theorem st_603 (S : PS) (a : Nat) (v : Option Nat) : vals (sR S 603 a v) a 6 = (vals S a 6).set 3 (va_rf v) := by simp [vals, sR, u2, pR, pI]
theorem st_604 (S : PS) (a : Nat) (v : Option Nat) : vals (sR S 604 a v) a 6 = (vals S a 6).set 4 (va_rf v) := by simp [vals, sR, u2, pR, pI]
theorem st_605 (S : PS) (a : Nat) (v : Option Nat) : vals (sR S 605 a v) a 6 = (vals S a 6).set 5 (va_rf v) := by simp [vals, sR, u2, pR, pI]
theorem st_606 (S : PS) (a : Nat) (v : Option Nat) : vals (sR S 606 a v) a 6 = (vals S a 6).set 6 (va_rf v) := by simp [vals, sR, u2, pR, pI]
theorem gv_600 (S : PS) (a : Nat) : (vals S a 6)[0]? = some (.int (pI S 600 a)) := rfl
theorem gv_601 (S : PS) (a : Nat) : (vals S a 6)[1]? = some (va_rf (pR S 601 a)) := rfl
theorem gv_602 (S : PS) (a : Nat) : (vals S a 6)[2]? = some (va_rf (pR S 602 a)) := rfl
theorem gv_603 (S : PS) (a : Nat) : (vals S a 6)[3]? = some (va_rf (pR S 603 a)) := rfl
theorem gv_604 (S : PS) (a : Nat) : (vals S a 6)[4]? = some (va_rf (pR S 604 a)) := rfl
theorem gv_605 (S : PS) (a : Nat) : (vals S a 6)[5]? = some (va_rf (pR S 605 a)) := rfl
theorem gv_606 (S : PS) (a : Nat) : (vals S a 6)[6]? = some (va_rf (pR S 606 a)) := rfl
theorem zo_6 (S : PS) (q : Nat) : vals (sO S q 6) q 6 = [.int 0, .null, .null, .null, .null, .null, .null] := by simp [vals, sO, pI, pR, va_rf]
theorem zd_6 : ∀ j, j < 7 → defaultValue (tyX6 j) = vp_V [.int 0, .null, .null, .null, .null, .null, .null] j := by
  intro j hj
  have : ∀ j : Fin 7, defaultValue (tyX6 j) = vp_V [.int 0, .null, .null, .null, .null, .null, .null] j := by decide +kernel
  exact this ⟨j, hj⟩
theorem st_700 (S : PS) (a : Nat) (v : Int32) : vals (sI S 700 a v) a 7 = (vals S a 7).set 0 (.int v) := by simp [vals, sI, u2, pI, pR]
theorem st_701 (S : PS) (a : Nat) (v : Int32) : vals (sI S 701 a v) a 7 = (vals S a 7).set 1 (.int v) := by simp [vals, sI, u2, pI, pR]
theorem st_702 (S : PS) (a : Nat) (v : Int32) : vals (sI S 702 a v) a 7 = (vals S a 7).set 2 (.int v) := by simp [vals, sI, u2, pI, pR]
theorem st_703 (S : PS) (a : Nat) (v : Option Nat) : vals (sR S 703 a v) a 7 = (vals S a 7).set 3 (va_rf v) := by simp [vals, sR, u2, pR, pI]
theorem st_704 (S : PS) (a : Nat) (v : Int32) : vals (sI S 704 a v) a 7 = (vals S a 7).set 4 (.int v) := by simp [vals, sI, u2, pI, pR]
theorem st_705 (S : PS) (a : Nat) (v : Int32) : vals (sI S 705 a v) a 7 = (vals S a 7).set 5 (.int v) := by simp [vals, sI, u2, pI, pR]
theorem st_706 (S : PS) (a : Nat) (v : Int32) : vals (sI S 706 a v) a 7 = (vals S a 7).set 6 (.int v) := by simp [vals, sI, u2, pI, pR]
theorem st_707 (S : PS) (a : Nat) (v : Int32) : vals (sI S 707 a v) a 7 = (vals S a 7).set 7 (.int v) := by simp [vals, sI, u2, pI, pR]
theorem st_708 (S : PS) (a : Nat) (v : Int32) : vals (sI S 708 a v) a 7 = (vals S a 7).set 8 (.int v) := by simp [vals, sI, u2, pI, pR]
theorem st_709 (S : PS) (a : Nat) (v : Int32) : vals (sI S 709 a v) a 7 = (vals S a 7).set 9 (.int v) := by simp [vals, sI, u2, pI, pR]
theorem gv_700 (S : PS) (a : Nat) : (vals S a 7)[0]? = some (.int (pI S 700 a)) := rfl
theorem gv_701 (S : PS) (a : Nat) : (vals S a 7)[1]? = some (.int (pI S 701 a)) := rfl
theorem gv_702 (S : PS) (a : Nat) : (vals S a 7)[2]? = some (.int (pI S 702 a)) := rfl
theorem gv_703 (S : PS) (a : Nat) : (vals S a 7)[3]? = some (va_rf (pR S 703 a)) := rfl
theorem gv_704 (S : PS) (a : Nat) : (vals S a 7)[4]? = some (.int (pI S 704 a)) := rfl
theorem gv_705 (S : PS) (a : Nat) : (vals S a 7)[5]? = some (.int (pI S 705 a)) := rfl
theorem gv_706 (S : PS) (a : Nat) : (vals S a 7)[6]? = some (.int (pI S 706 a)) := rfl
theorem gv_707 (S : PS) (a : Nat) : (vals S a 7)[7]? = some (.int (pI S 707 a)) := rfl
theorem gv_708 (S : PS) (a : Nat) : (vals S a 7)[8]? = some (.int (pI S 708 a)) := rfl
theorem gv_709 (S : PS) (a : Nat) : (vals S a 7)[9]? = some (.int (pI S 709 a)) := rfl
theorem zo_7 (S : PS) (q : Nat) : vals (sO S q 7) q 7 = [.int 0, .int 0, .int 0, .null, .int 0, .int 0, .int 0, .int 0, .int 0, .int 0] := by simp [vals, sO, pI, pR, va_rf]
theorem zd_7 : ∀ j, j < 10 → defaultValue (tyX7 j) = vp_V [.int 0, .int 0, .int 0, .null, .int 0, .int 0, .int 0, .int 0, .int 0, .int 0] j := by
  intro j hj
  have : ∀ j : Fin 10, defaultValue (tyX7 j) = vp_V [.int 0, .int 0, .int 0, .null, .int 0, .int 0, .int 0, .int 0, .int 0, .int 0] j := by decide +kernel
  exact this ⟨j, hj⟩
theorem st_800 (S : PS) (a : Nat) (v : Int32) : vals (sI S 800 a v) a 8 = (vals S a 8).set 0 (.int v) := by simp [vals, sI, u2, pI, pR]
theorem st_801 (S : PS) (a : Nat) (v : Int32) : vals (sI S 801 a v) a 8 = (vals S a 8).set 1 (.int v) := by simp [vals, sI, u2, pI, pR]
theorem st_802 (S : PS) (a : Nat) (v : Int32) : vals (sI S 802 a v) a 8 = (vals S a 8).set 2 (.int v) := by simp [vals, sI, u2, pI, pR]
theorem st_803 (S : PS) (a : Nat) (v : Int32) : vals (sI S 803 a v) a 8 = (vals S a 8).set 3 (.int v) := by simp [vals, sI, u2, pI, pR]
theorem st_804 (S : PS) (a : Nat) (v : Int32) : vals (sI S 804 a v) a 8 = (vals S a 8).set 4 (.int v) := by simp [vals, sI, u2, pI, pR]
theorem st_805 (S : PS) (a : Nat) (v : Int32) : vals (sI S 805 a v) a 8 = (vals S a 8).set 5 (.int v) := by simp [vals, sI, u2, pI, pR]
theorem st_806 (S : PS) (a : Nat) (v : Int32) : vals (sI S 806 a v) a 8 = (vals S a 8).set 6 (.int v) := by simp [vals, sI, u2, pI, pR]
theorem st_807 (S : PS) (a : Nat) (v : Option Nat) : vals (sR S 807 a v) a 8 = (vals S a 8).set 7 (va_rf v) := by simp [vals, sR, u2, pR, pI]
theorem st_808 (S : PS) (a : Nat) (v : Option Nat) : vals (sR S 808 a v) a 8 = (vals S a 8).set 8 (va_rf v) := by simp [vals, sR, u2, pR, pI]
theorem st_809 (S : PS) (a : Nat) (v : Option Nat) : vals (sR S 809 a v) a 8 = (vals S a 8).set 9 (va_rf v) := by simp [vals, sR, u2, pR, pI]
theorem st_810 (S : PS) (a : Nat) (v : Option Nat) : vals (sR S 810 a v) a 8 = (vals S a 8).set 10 (va_rf v) := by simp [vals, sR, u2, pR, pI]
theorem st_811 (S : PS) (a : Nat) (v : Option Nat) : vals (sR S 811 a v) a 8 = (vals S a 8).set 11 (va_rf v) := by simp [vals, sR, u2, pR, pI]
theorem st_812 (S : PS) (a : Nat) (v : Option Nat) : vals (sR S 812 a v) a 8 = (vals S a 8).set 12 (va_rf v) := by simp [vals, sR, u2, pR, pI]
theorem gv_800 (S : PS) (a : Nat) : (vals S a 8)[0]? = some (.int (pI S 800 a)) := rfl
theorem gv_801 (S : PS) (a : Nat) : (vals S a 8)[1]? = some (.int (pI S 801 a)) := rfl
theorem gv_802 (S : PS) (a : Nat) : (vals S a 8)[2]? = some (.int (pI S 802 a)) := rfl
theorem gv_803 (S : PS) (a : Nat) : (vals S a 8)[3]? = some (.int (pI S 803 a)) := rfl
theorem gv_804 (S : PS) (a : Nat) : (vals S a 8)[4]? = some (.int (pI S 804 a)) := rfl
theorem gv_805 (S : PS) (a : Nat) : (vals S a 8)[5]? = some (.int (pI S 805 a)) := rfl
theorem gv_806 (S : PS) (a : Nat) : (vals S a 8)[6]? = some (.int (pI S 806 a)) := rfl
theorem gv_807 (S : PS) (a : Nat) : (vals S a 8)[7]? = some (va_rf (pR S 807 a)) := rfl
theorem gv_808 (S : PS) (a : Nat) : (vals S a 8)[8]? = some (va_rf (pR S 808 a)) := rfl
theorem gv_809 (S : PS) (a : Nat) : (vals S a 8)[9]? = some (va_rf (pR S 809 a)) := rfl
theorem gv_810 (S : PS) (a : Nat) : (vals S a 8)[10]? = some (va_rf (pR S 810 a)) := rfl
theorem gv_811 (S : PS) (a : Nat) : (vals S a 8)[11]? = some (va_rf (pR S 811 a)) := rfl
theorem gv_812 (S : PS) (a : Nat) : (vals S a 8)[12]? = some (va_rf (pR S 812 a)) := rfl
theorem zo_8 (S : PS) (q : Nat) : vals (sO S q 8) q 8 = [.int 0, .int 0, .int 0, .int 0, .int 0, .int 0, .int 0, .null, .null, .null, .null, .null, .null] := by simp [vals, sO, pI, pR, va_rf]
theorem zd_8 : ∀ j, j < 13 → defaultValue (tyX8 j) = vp_V [.int 0, .int 0, .int 0, .int 0, .int 0, .int 0, .int 0, .null, .null, .null, .null, .null, .null] j := by
  intro j hj
  have : ∀ j : Fin 13, defaultValue (tyX8 j) = vp_V [.int 0, .int 0, .int 0, .int 0, .int 0, .int 0, .int 0, .null, .null, .null, .null, .null, .null] j := by decide +kernel
  exact this ⟨j, hj⟩
theorem st_900 (S : PS) (a : Nat) (v : Option Nat) : vals (sR S 900 a v) a 9 = (vals S a 9).set 0 (va_rf v) := by simp [vals, sR, u2, pR, pI]
theorem st_901 (S : PS) (a : Nat) (v : Option Nat) : vals (sR S 901 a v) a 9 = (vals S a 9).set 1 (va_rf v) := by simp [vals, sR, u2, pR, pI]
theorem st_902 (S : PS) (a : Nat) (v : Int32) : vals (sI S 902 a v) a 9 = (vals S a 9).set 2 (.int v) := by simp [vals, sI, u2, pI, pR]
theorem st_903 (S : PS) (a : Nat) (v : Int32) : vals (sI S 903 a v) a 9 = (vals S a 9).set 3 (.int v) := by simp [vals, sI, u2, pI, pR]
theorem st_904 (S : PS) (a : Nat) (v : Int32) : vals (sI S 904 a v) a 9 = (vals S a 9).set 4 (.int v) := by simp [vals, sI, u2, pI, pR]
theorem st_905 (S : PS) (a : Nat) (v : Option Nat) : vals (sR S 905 a v) a 9 = (vals S a 9).set 5 (va_rf v) := by simp [vals, sR, u2, pR, pI]
theorem st_906 (S : PS) (a : Nat) (v : Option Nat) : vals (sR S 906 a v) a 9 = (vals S a 9).set 6 (va_rf v) := by simp [vals, sR, u2, pR, pI]
theorem st_907 (S : PS) (a : Nat) (v : Option Nat) : vals (sR S 907 a v) a 9 = (vals S a 9).set 7 (va_rf v) := by simp [vals, sR, u2, pR, pI]
theorem st_908 (S : PS) (a : Nat) (v : Option Nat) : vals (sR S 908 a v) a 9 = (vals S a 9).set 8 (va_rf v) := by simp [vals, sR, u2, pR, pI]
theorem gv_900 (S : PS) (a : Nat) : (vals S a 9)[0]? = some (va_rf (pR S 900 a)) := rfl
theorem gv_901 (S : PS) (a : Nat) : (vals S a 9)[1]? = some (va_rf (pR S 901 a)) := rfl
theorem gv_902 (S : PS) (a : Nat) : (vals S a 9)[2]? = some (.int (pI S 902 a)) := rfl
theorem gv_903 (S : PS) (a : Nat) : (vals S a 9)[3]? = some (.int (pI S 903 a)) := rfl
theorem gv_904 (S : PS) (a : Nat) : (vals S a 9)[4]? = some (.int (pI S 904 a)) := rfl
theorem gv_905 (S : PS) (a : Nat) : (vals S a 9)[5]? = some (va_rf (pR S 905 a)) := rfl
theorem gv_906 (S : PS) (a : Nat) : (vals S a 9)[6]? = some (va_rf (pR S 906 a)) := rfl
theorem gv_907 (S : PS) (a : Nat) : (vals S a 9)[7]? = some (va_rf (pR S 907 a)) := rfl
theorem gv_908 (S : PS) (a : Nat) : (vals S a 9)[8]? = some (va_rf (pR S 908 a)) := rfl
theorem zo_9 (S : PS) (q : Nat) : vals (sO S q 9) q 9 = [.null, .null, .int 0, .int 0, .int 0, .null, .null, .null, .null] := by simp [vals, sO, pI, pR, va_rf]
theorem zd_9 : ∀ j, j < 9 → defaultValue (tyX9 j) = vp_V [.null, .null, .int 0, .int 0, .int 0, .null, .null, .null, .null] j := by
  intro j hj
  have : ∀ j : Fin 9, defaultValue (tyX9 j) = vp_V [.null, .null, .int 0, .int 0, .int 0, .null, .null, .null, .null] j := by decide +kernel
  exact this ⟨j, hj⟩
theorem st_1000 (S : PS) (a : Nat) (v : Int32) : vals (sI S 1000 a v) a 10 = (vals S a 10).set 0 (.int v) := by simp [vals, sI, u2, pI, pR]
theorem st_1001 (S : PS) (a : Nat) (v : Int32) : vals (sI S 1001 a v) a 10 = (vals S a 10).set 1 (.int v) := by simp [vals, sI, u2, pI, pR]
theorem st_1002 (S : PS) (a : Nat) (v : Int32) : vals (sI S 1002 a v) a 10 = (vals S a 10).set 2 (.int v) := by simp [vals, sI, u2, pI, pR]
theorem st_1003 (S : PS) (a : Nat) (v : Option Nat) : vals (sR S 1003 a v) a 10 = (vals S a 10).set 3 (va_rf v) := by simp [vals, sR, u2, pR, pI]
theorem st_1004 (S : PS) (a : Nat) (v : Int32) : vals (sI S 1004 a v) a 10 = (vals S a 10).set 4 (.int v) := by simp [vals, sI, u2, pI, pR]
theorem st_1005 (S : PS) (a : Nat) (v : Int32) : vals (sI S 1005 a v) a 10 = (vals S a 10).set 5 (.int v) := by simp [vals, sI, u2, pI, pR]
theorem st_1006 (S : PS) (a : Nat) (v : Int32) : vals (sI S 1006 a v) a 10 = (vals S a 10).set 6 (.int v) := by simp [vals, sI, u2, pI, pR]
theorem gv_1000 (S : PS) (a : Nat) : (vals S a 10)[0]? = some (.int (pI S 1000 a)) := rfl
theorem gv_1001 (S : PS) (a : Nat) : (vals S a 10)[1]? = some (.int (pI S 1001 a)) := rfl
theorem gv_1002 (S : PS) (a : Nat) : (vals S a 10)[2]? = some (.int (pI S 1002 a)) := rfl
theorem gv_1003 (S : PS) (a : Nat) : (vals S a 10)[3]? = some (va_rf (pR S 1003 a)) := rfl
theorem gv_1004 (S : PS) (a : Nat) : (vals S a 10)[4]? = some (.int (pI S 1004 a)) := rfl
theorem gv_1005 (S : PS) (a : Nat) : (vals S a 10)[5]? = some (.int (pI S 1005 a)) := rfl
theorem gv_1006 (S : PS) (a : Nat) : (vals S a 10)[6]? = some (.int (pI S 1006 a)) := rfl
theorem zo_10 (S : PS) (q : Nat) : vals (sO S q 10) q 10 = [.int 0, .int 0, .int 0, .null, .int 0, .int 0, .int 0] := by simp [vals, sO, pI, pR, va_rf]
theorem zd_10 : ∀ j, j < 7 → defaultValue (tyX10 j) = vp_V [.int 0, .int 0, .int 0, .null, .int 0, .int 0, .int 0] j := by
  intro j hj
  have : ∀ j : Fin 7, defaultValue (tyX10 j) = vp_V [.int 0, .int 0, .int 0, .null, .int 0, .int 0, .int 0] j := by decide +kernel
  exact this ⟨j, hj⟩
theorem st_1100 (S : PS) (a : Nat) (v : Option Nat) : vals (sR S 1100 a v) a 11 = (vals S a 11).set 0 (va_rf v) := by simp [vals, sR, u2, pR, pI]
theorem st_1101 (S : PS) (a : Nat) (v : Option Nat) : vals (sR S 1101 a v) a 11 = (vals S a 11).set 1 (va_rf v) := by simp [vals, sR, u2, pR, pI]
theorem st_1102 (S : PS) (a : Nat) (v : Int32) : vals (sI S 1102 a v) a 11 = (vals S a 11).set 2 (.int v) := by simp [vals, sI, u2, pI, pR]
theorem st_1103 (S : PS) (a : Nat) (v : Option Nat) : vals (sR S 1103 a v) a 11 = (vals S a 11).set 3 (va_rf v) := by simp [vals, sR, u2, pR, pI]
theorem st_1104 (S : PS) (a : Nat) (v : Int32) : vals (sI S 1104 a v) a 11 = (vals S a 11).set 4 (.int v) := by simp [vals, sI, u2, pI, pR]
theorem st_1105 (S : PS) (a : Nat) (v : Option Nat) : vals (sR S 1105 a v) a 11 = (vals S a 11).set 5 (va_rf v) := by simp [vals, sR, u2, pR, pI]
theorem st_1106 (S : PS) (a : Nat) (v : Option Nat) : vals (sR S 1106 a v) a 11 = (vals S a 11).set 6 (va_rf v) := by simp [vals, sR, u2, pR, pI]
theorem st_1107 (S : PS) (a : Nat) (v : Option Nat) : vals (sR S 1107 a v) a 11 = (vals S a 11).set 7 (va_rf v) := by simp [vals, sR, u2, pR, pI]
theorem st_1108 (S : PS) (a : Nat) (v : Option Nat) : vals (sR S 1108 a v) a 11 = (vals S a 11).set 8 (va_rf v) := by simp [vals, sR, u2, pR, pI]
theorem st_1109 (S : PS) (a : Nat) (v : Option Nat) : vals (sR S 1109 a v) a 11 = (vals S a 11).set 9 (va_rf v) := by simp [vals, sR, u2, pR, pI]
theorem st_1110 (S : PS) (a : Nat) (v : Int32) : vals (sI S 1110 a v) a 11 = (vals S a 11).set 10 (.int v) := by simp [vals, sI, u2, pI, pR]
theorem st_1111 (S : PS) (a : Nat) (v : Option Nat) : vals (sR S 1111 a v) a 11 = (vals S a 11).set 11 (va_rf v) := by simp [vals, sR, u2, pR, pI]
theorem gv_1100 (S : PS) (a : Nat) : (vals S a 11)[0]? = some (va_rf (pR S 1100 a)) := rfl
theorem gv_1101 (S : PS) (a : Nat) : (vals S a 11)[1]? = some (va_rf (pR S 1101 a)) := rfl
theorem gv_1102 (S : PS) (a : Nat) : (vals S a 11)[2]? = some (.int (pI S 1102 a)) := rfl
theorem gv_1103 (S : PS) (a : Nat) : (vals S a 11)[3]? = some (va_rf (pR S 1103 a)) := rfl
theorem gv_1104 (S : PS) (a : Nat) : (vals S a 11)[4]? = some (.int (pI S 1104 a)) := rfl
theorem gv_1105 (S : PS) (a : Nat) : (vals S a 11)[5]? = some (va_rf (pR S 1105 a)) := rfl
theorem gv_1106 (S : PS) (a : Nat) : (vals S a 11)[6]? = some (va_rf (pR S 1106 a)) := rfl
theorem gv_1107 (S : PS) (a : Nat) : (vals S a 11)[7]? = some (va_rf (pR S 1107 a)) := rfl
theorem gv_1108 (S : PS) (a : Nat) : (vals S a 11)[8]? = some (va_rf (pR S 1108 a)) := rfl
theorem gv_1109 (S : PS) (a : Nat) : (vals S a 11)[9]? = some (va_rf (pR S 1109 a)) := rfl
theorem gv_1110 (S : PS) (a : Nat) : (vals S a 11)[10]? = some (.int (pI S 1110 a)) := rfl
theorem gv_1111 (S : PS) (a : Nat) : (vals S a 11)[11]? = some (va_rf (pR S 1111 a)) := rfl
theorem zo_11 (S : PS) (q : Nat) : vals (sO S q 11) q 11 = [.null, .null, .int 0, .null, .int 0, .null, .null, .null, .null, .null, .int 0, .null] := by simp [vals, sO, pI, pR, va_rf]
theorem zd_11 : ∀ j, j < 12 → defaultValue (tyX11 j) = vp_V [.null, .null, .int 0, .null, .int 0, .null, .null, .null, .null, .null, .int 0, .null] j := by
  intro j hj
  have : ∀ j : Fin 12, defaultValue (tyX11 j) = vp_V [.null, .null, .int 0, .null, .int 0, .null, .null, .null, .null, .null, .int 0, .null] j := by decide +kernel
  exact this ⟨j, hj⟩
theorem st_1200 (S : PS) (a : Nat) (v : Int32) : vals (sI S 1200 a v) a 12 = (vals S a 12).set 0 (.int v) := by simp [vals, sI, u2, pI, pR]
theorem st_1201 (S : PS) (a : Nat) (v : Int32) : vals (sI S 1201 a v) a 12 = (vals S a 12).set 1 (.int v) := by simp [vals, sI, u2, pI, pR]
theorem st_1202 (S : PS) (a : Nat) (v : Option Nat) : vals (sR S 1202 a v) a 12 = (vals S a 12).set 2 (va_rf v) := by simp [vals, sR, u2, pR, pI]
theorem st_1203 (S : PS) (a : Nat) (v : Option Nat) : vals (sR S 1203 a v) a 12 = (vals S a 12).set 3 (va_rf v) := by simp [vals, sR, u2, pR, pI]
theorem st_1204 (S : PS) (a : Nat) (v : Option Nat) : vals (sR S 1204 a v) a 12 = (vals S a 12).set 4 (va_rf v) := by simp [vals, sR, u2, pR, pI]
theorem st_1205 (S : PS) (a : Nat) (v : Option Nat) : vals (sR S 1205 a v) a 12 = (vals S a 12).set 5 (va_rf v) := by simp [vals, sR, u2, pR, pI]
theorem st_1206 (S : PS) (a : Nat) (v : Option Nat) : vals (sR S 1206 a v) a 12 = (vals S a 12).set 6 (va_rf v) := by simp [vals, sR, u2, pR, pI]
theorem st_1207 (S : PS) (a : Nat) (v : Option Nat) : vals (sR S 1207 a v) a 12 = (vals S a 12).set 7 (va_rf v) := by simp [vals, sR, u2, pR, pI]
theorem st_1208 (S : PS) (a : Nat) (v : Option Nat) : vals (sR S 1208 a v) a 12 = (vals S a 12).set 8 (va_rf v) := by simp [vals, sR, u2, pR, pI]
theorem st_1209 (S : PS) (a : Nat) (v : Option Nat) : vals (sR S 1209 a v) a 12 = (vals S a 12).set 9 (va_rf v) := by simp [vals, sR, u2, pR, pI]
theorem st_1210 (S : PS) (a : Nat) (v : Option Nat) : vals (sR S 1210 a v) a 12 = (vals S a 12).set 10 (va_rf v) := by simp [vals, sR, u2, pR, pI]
theorem st_1211 (S : PS) (a : Nat) (v : Int32) : vals (sI S 1211 a v) a 12 = (vals S a 12).set 11 (.int v) := by simp [vals, sI, u2, pI, pR]
theorem st_1212 (S : PS) (a : Nat) (v : Option Nat) : vals (sR S 1212 a v) a 12 = (vals S a 12).set 12 (va_rf v) := by simp [vals, sR, u2, pR, pI]
theorem st_1213 (S : PS) (a : Nat) (v : Option Nat) : vals (sR S 1213 a v) a 12 = (vals S a 12).set 13 (va_rf v) := by simp [vals, sR, u2, pR, pI]
theorem st_1214 (S : PS) (a : Nat) (v : Option Nat) : vals (sR S 1214 a v) a 12 = (vals S a 12).set 14 (va_rf v) := by simp [vals, sR, u2, pR, pI]
theorem st_1215 (S : PS) (a : Nat) (v : Option Nat) : vals (sR S 1215 a v) a 12 = (vals S a 12).set 15 (va_rf v) := by simp [vals, sR, u2, pR, pI]
theorem st_1216 (S : PS) (a : Nat) (v : Option Nat) : vals (sR S 1216 a v) a 12 = (vals S a 12).set 16 (va_rf v) := by simp [vals, sR, u2, pR, pI]
theorem st_1217 (S : PS) (a : Nat) (v : Option Nat) : vals (sR S 1217 a v) a 12 = (vals S a 12).set 17 (va_rf v) := by simp [vals, sR, u2, pR, pI]
theorem st_1218 (S : PS) (a : Nat) (v : Option Nat) : vals (sR S 1218 a v) a 12 = (vals S a 12).set 18 (va_rf v) := by simp [vals, sR, u2, pR, pI]
theorem st_1219 (S : PS) (a : Nat) (v : Option Nat) : vals (sR S 1219 a v) a 12 = (vals S a 12).set 19 (va_rf v) := by simp [vals, sR, u2, pR, pI]
theorem st_1220 (S : PS) (a : Nat) (v : Option Nat) : vals (sR S 1220 a v) a 12 = (vals S a 12).set 20 (va_rf v) := by simp [vals, sR, u2, pR, pI]
theorem st_1221 (S : PS) (a : Nat) (v : Option Nat) : vals (sR S 1221 a v) a 12 = (vals S a 12).set 21 (va_rf v) := by simp [vals, sR, u2, pR, pI]
theorem st_1222 (S : PS) (a : Nat) (v : Option Nat) : vals (sR S 1222 a v) a 12 = (vals S a 12).set 22 (va_rf v) := by simp [vals, sR, u2, pR, pI]
theorem st_1223 (S : PS) (a : Nat) (v : Option Nat) : vals (sR S 1223 a v) a 12 = (vals S a 12).set 23 (va_rf v) := by simp [vals, sR, u2, pR, pI]
theorem st_1224 (S : PS) (a : Nat) (v : Option Nat) : vals (sR S 1224 a v) a 12 = (vals S a 12).set 24 (va_rf v) := by simp [vals, sR, u2, pR, pI]
theorem st_1225 (S : PS) (a : Nat) (v : Option Nat) : vals (sR S 1225 a v) a 12 = (vals S a 12).set 25 (va_rf v) := by simp [vals, sR, u2, pR, pI]
theorem st_1226 (S : PS) (a : Nat) (v : Option Nat) : vals (sR S 1226 a v) a 12 = (vals S a 12).set 26 (va_rf v) := by simp [vals, sR, u2, pR, pI]
theorem st_1227 (S : PS) (a : Nat) (v : Option Nat) : vals (sR S 1227 a v) a 12 = (vals S a 12).set 27 (va_rf v) := by simp [vals, sR, u2, pR, pI]
theorem st_1228 (S : PS) (a : Nat) (v : Int32) : vals (sI S 1228 a v) a 12 = (vals S a 12).set 28 (.int v) := by simp [vals, sI, u2, pI, pR]
theorem st_1229 (S : PS) (a : Nat) (v : Int32) : vals (sI S 1229 a v) a 12 = (vals S a 12).set 29 (.int v) := by simp [vals, sI, u2, pI, pR]
theorem st_1230 (S : PS) (a : Nat) (v : Int32) : vals (sI S 1230 a v) a 12 = (vals S a 12).set 30 (.int v) := by simp [vals, sI, u2, pI, pR]
theorem st_1231 (S : PS) (a : Nat) (v : Int32) : vals (sI S 1231 a v) a 12 = (vals S a 12).set 31 (.int v) := by simp [vals, sI, u2, pI, pR]
theorem st_1232 (S : PS) (a : Nat) (v : Int32) : vals (sI S 1232 a v) a 12 = (vals S a 12).set 32 (.int v) := by simp [vals, sI, u2, pI, pR]
theorem st_1233 (S : PS) (a : Nat) (v : Int32) : vals (sI S 1233 a v) a 12 = (vals S a 12).set 33 (.int v) := by simp [vals, sI, u2, pI, pR]
theorem st_1234 (S : PS) (a : Nat) (v : Int32) : vals (sI S 1234 a v) a 12 = (vals S a 12).set 34 (.int v) := by simp [vals, sI, u2, pI, pR]
theorem st_1235 (S : PS) (a : Nat) (v : Option Nat) : vals (sR S 1235 a v) a 12 = (vals S a 12).set 35 (va_rf v) := by simp [vals, sR, u2, pR, pI]
theorem st_1236 (S : PS) (a : Nat) (v : Option Nat) : vals (sR S 1236 a v) a 12 = (vals S a 12).set 36 (va_rf v) := by simp [vals, sR, u2, pR, pI]
theorem st_1237 (S : PS) (a : Nat) (v : Option Nat) : vals (sR S 1237 a v) a 12 = (vals S a 12).set 37 (va_rf v) := by simp [vals, sR, u2, pR, pI]
theorem st_1238 (S : PS) (a : Nat) (v : Int32) : vals (sI S 1238 a v) a 12 = (vals S a 12).set 38 (.int v) := by simp [vals, sI, u2, pI, pR]
theorem st_1239 (S : PS) (a : Nat) (v : Option Nat) : vals (sR S 1239 a v) a 12 = (vals S a 12).set 39 (va_rf v) := by simp [vals, sR, u2, pR, pI]
theorem st_1240 (S : PS) (a : Nat) (v : Option Nat) : vals (sR S 1240 a v) a 12 = (vals S a 12).set 40 (va_rf v) := by simp [vals, sR, u2, pR, pI]
theorem st_1241 (S : PS) (a : Nat) (v : Option Nat) : vals (sR S 1241 a v) a 12 = (vals S a 12).set 41 (va_rf v) := by simp [vals, sR, u2, pR, pI]
theorem st_1242 (S : PS) (a : Nat) (v : Option Nat) : vals (sR S 1242 a v) a 12 = (vals S a 12).set 42 (va_rf v) := by simp [vals, sR, u2, pR, pI]
theorem st_1243 (S : PS) (a : Nat) (v : Option Nat) : vals (sR S 1243 a v) a 12 = (vals S a 12).set 43 (va_rf v) := by simp [vals, sR, u2, pR, pI]
theorem st_1244 (S : PS) (a : Nat) (v : Option Nat) : vals (sR S 1244 a v) a 12 = (vals S a 12).set 44 (va_rf v) := by simp [vals, sR, u2, pR, pI]
theorem st_1245 (S : PS) (a : Nat) (v : Int32) : vals (sI S 1245 a v) a 12 = (vals S a 12).set 45 (.int v) := by simp [vals, sI, u2, pI, pR]
theorem st_1246 (S : PS) (a : Nat) (v : Int32) : vals (sI S 1246 a v) a 12 = (vals S a 12).set 46 (.int v) := by simp [vals, sI, u2, pI, pR]
theorem st_1247 (S : PS) (a : Nat) (v : Int32) : vals (sI S 1247 a v) a 12 = (vals S a 12).set 47 (.int v) := by simp [vals, sI, u2, pI, pR]
theorem st_1248 (S : PS) (a : Nat) (v : Option Nat) : vals (sR S 1248 a v) a 12 = (vals S a 12).set 48 (va_rf v) := by simp [vals, sR, u2, pR, pI]
theorem st_1249 (S : PS) (a : Nat) (v : Int32) : vals (sI S 1249 a v) a 12 = (vals S a 12).set 49 (.int v) := by simp [vals, sI, u2, pI, pR]
theorem st_1250 (S : PS) (a : Nat) (v : Int32) : vals (sI S 1250 a v) a 12 = (vals S a 12).set 50 (.int v) := by simp [vals, sI, u2, pI, pR]
theorem st_1251 (S : PS) (a : Nat) (v : Int32) : vals (sI S 1251 a v) a 12 = (vals S a 12).set 51 (.int v) := by simp [vals, sI, u2, pI, pR]
theorem st_1252 (S : PS) (a : Nat) (v : Option Nat) : vals (sR S 1252 a v) a 12 = (vals S a 12).set 52 (va_rf v) := by simp [vals, sR, u2, pR, pI]
theorem st_1253 (S : PS) (a : Nat) (v : Option Nat) : vals (sR S 1253 a v) a 12 = (vals S a 12).set 53 (va_rf v) := by simp [vals, sR, u2, pR, pI]
theorem st_1254 (S : PS) (a : Nat) (v : Option Nat) : vals (sR S 1254 a v) a 12 = (vals S a 12).set 54 (va_rf v) := by simp [vals, sR, u2, pR, pI]
theorem st_1255 (S : PS) (a : Nat) (v : Option Nat) : vals (sR S 1255 a v) a 12 = (vals S a 12).set 55 (va_rf v) := by simp [vals, sR, u2, pR, pI]
theorem st_1256 (S : PS) (a : Nat) (v : Option Nat) : vals (sR S 1256 a v) a 12 = (vals S a 12).set 56 (va_rf v) := by simp [vals, sR, u2, pR, pI]
theorem st_1257 (S : PS) (a : Nat) (v : Option Nat) : vals (sR S 1257 a v) a 12 = (vals S a 12).set 57 (va_rf v) := by simp [vals, sR, u2, pR, pI]
theorem st_1258 (S : PS) (a : Nat) (v : Option Nat) : vals (sR S 1258 a v) a 12 = (vals S a 12).set 58 (va_rf v) := by simp [vals, sR, u2, pR, pI]
theorem st_1259 (S : PS) (a : Nat) (v : Option Nat) : vals (sR S 1259 a v) a 12 = (vals S a 12).set 59 (va_rf v) := by simp [vals, sR, u2, pR, pI]
theorem st_1260 (S : PS) (a : Nat) (v : Option Nat) : vals (sR S 1260 a v) a 12 = (vals S a 12).set 60 (va_rf v) := by simp [vals, sR, u2, pR, pI]
theorem st_1261 (S : PS) (a : Nat) (v : Option Nat) : vals (sR S 1261 a v) a 12 = (vals S a 12).set 61 (va_rf v) := by simp [vals, sR, u2, pR, pI]
theorem st_1262 (S : PS) (a : Nat) (v : Int32) : vals (sI S 1262 a v) a 12 = (vals S a 12).set 62 (.int v) := by simp [vals, sI, u2, pI, pR]
theorem st_1263 (S : PS) (a : Nat) (v : Option Nat) : vals (sR S 1263 a v) a 12 = (vals S a 12).set 63 (va_rf v) := by simp [vals, sR, u2, pR, pI]
theorem st_1264 (S : PS) (a : Nat) (v : Option Nat) : vals (sR S 1264 a v) a 12 = (vals S a 12).set 64 (va_rf v) := by simp [vals, sR, u2, pR, pI]
theorem st_1265 (S : PS) (a : Nat) (v : Option Nat) : vals (sR S 1265 a v) a 12 = (vals S a 12).set 65 (va_rf v) := by simp [vals, sR, u2, pR, pI]
theorem gv_1200 (S : PS) (a : Nat) : (vals S a 12)[0]? = some (.int (pI S 1200 a)) := rfl
theorem gv_1201 (S : PS) (a : Nat) : (vals S a 12)[1]? = some (.int (pI S 1201 a)) := rfl
theorem gv_1202 (S : PS) (a : Nat) : (vals S a 12)[2]? = some (va_rf (pR S 1202 a)) := rfl
theorem gv_1203 (S : PS) (a : Nat) : (vals S a 12)[3]? = some (va_rf (pR S 1203 a)) := rfl
theorem gv_1204 (S : PS) (a : Nat) : (vals S a 12)[4]? = some (va_rf (pR S 1204 a)) := rfl
theorem gv_1205 (S : PS) (a : Nat) : (vals S a 12)[5]? = some (va_rf (pR S 1205 a)) := rfl
theorem gv_1206 (S : PS) (a : Nat) : (vals S a 12)[6]? = some (va_rf (pR S 1206 a)) := rfl
theorem gv_1207 (S : PS) (a : Nat) : (vals S a 12)[7]? = some (va_rf (pR S 1207 a)) := rfl
theorem gv_1208 (S : PS) (a : Nat) : (vals S a 12)[8]? = some (va_rf (pR S 1208 a)) := rfl
theorem gv_1209 (S : PS) (a : Nat) : (vals S a 12)[9]? = some (va_rf (pR S 1209 a)) := rfl
theorem gv_1210 (S : PS) (a : Nat) : (vals S a 12)[10]? = some (va_rf (pR S 1210 a)) := rfl
theorem gv_1211 (S : PS) (a : Nat) : (vals S a 12)[11]? = some (.int (pI S 1211 a)) := rfl
theorem gv_1212 (S : PS) (a : Nat) : (vals S a 12)[12]? = some (va_rf (pR S 1212 a)) := rfl
theorem gv_1213 (S : PS) (a : Nat) : (vals S a 12)[13]? = some (va_rf (pR S 1213 a)) := rfl
theorem gv_1214 (S : PS) (a : Nat) : (vals S a 12)[14]? = some (va_rf (pR S 1214 a)) := rfl
theorem gv_1215 (S : PS) (a : Nat) : (vals S a 12)[15]? = some (va_rf (pR S 1215 a)) := rfl
theorem gv_1216 (S : PS) (a : Nat) : (vals S a 12)[16]? = some (va_rf (pR S 1216 a)) := rfl
theorem gv_1217 (S : PS) (a : Nat) : (vals S a 12)[17]? = some (va_rf (pR S 1217 a)) := rfl
theorem gv_1218 (S : PS) (a : Nat) : (vals S a 12)[18]? = some (va_rf (pR S 1218 a)) := rfl
theorem gv_1219 (S : PS) (a : Nat) : (vals S a 12)[19]? = some (va_rf (pR S 1219 a)) := rfl
theorem gv_1220 (S : PS) (a : Nat) : (vals S a 12)[20]? = some (va_rf (pR S 1220 a)) := rfl
theorem gv_1221 (S : PS) (a : Nat) : (vals S a 12)[21]? = some (va_rf (pR S 1221 a)) := rfl
theorem gv_1222 (S : PS) (a : Nat) : (vals S a 12)[22]? = some (va_rf (pR S 1222 a)) := rfl
theorem gv_1223 (S : PS) (a : Nat) : (vals S a 12)[23]? = some (va_rf (pR S 1223 a)) := rfl
theorem gv_1224 (S : PS) (a : Nat) : (vals S a 12)[24]? = some (va_rf (pR S 1224 a)) := rfl
theorem gv_1225 (S : PS) (a : Nat) : (vals S a 12)[25]? = some (va_rf (pR S 1225 a)) := rfl
theorem gv_1226 (S : PS) (a : Nat) : (vals S a 12)[26]? = some (va_rf (pR S 1226 a)) := rfl
theorem gv_1227 (S : PS) (a : Nat) : (vals S a 12)[27]? = some (va_rf (pR S 1227 a)) := rfl
theorem gv_1228 (S : PS) (a : Nat) : (vals S a 12)[28]? = some (.int (pI S 1228 a)) := rfl
theorem gv_1229 (S : PS) (a : Nat) : (vals S a 12)[29]? = some (.int (pI S 1229 a)) := rfl
theorem gv_1230 (S : PS) (a : Nat) : (vals S a 12)[30]? = some (.int (pI S 1230 a)) := rfl
theorem gv_1231 (S : PS) (a : Nat) : (vals S a 12)[31]? = some (.int (pI S 1231 a)) := rfl
theorem gv_1232 (S : PS) (a : Nat) : (vals S a 12)[32]? = some (.int (pI S 1232 a)) := rfl
theorem gv_1233 (S : PS) (a : Nat) : (vals S a 12)[33]? = some (.int (pI S 1233 a)) := rfl
theorem gv_1234 (S : PS) (a : Nat) : (vals S a 12)[34]? = some (.int (pI S 1234 a)) := rfl
theorem gv_1235 (S : PS) (a : Nat) : (vals S a 12)[35]? = some (va_rf (pR S 1235 a)) := rfl
theorem gv_1236 (S : PS) (a : Nat) : (vals S a 12)[36]? = some (va_rf (pR S 1236 a)) := rfl
theorem gv_1237 (S : PS) (a : Nat) : (vals S a 12)[37]? = some (va_rf (pR S 1237 a)) := rfl
theorem gv_1238 (S : PS) (a : Nat) : (vals S a 12)[38]? = some (.int (pI S 1238 a)) := rfl
theorem gv_1239 (S : PS) (a : Nat) : (vals S a 12)[39]? = some (va_rf (pR S 1239 a)) := rfl
theorem gv_1240 (S : PS) (a : Nat) : (vals S a 12)[40]? = some (va_rf (pR S 1240 a)) := rfl
theorem gv_1241 (S : PS) (a : Nat) : (vals S a 12)[41]? = some (va_rf (pR S 1241 a)) := rfl
theorem gv_1242 (S : PS) (a : Nat) : (vals S a 12)[42]? = some (va_rf (pR S 1242 a)) := rfl
theorem gv_1243 (S : PS) (a : Nat) : (vals S a 12)[43]? = some (va_rf (pR S 1243 a)) := rfl
theorem gv_1244 (S : PS) (a : Nat) : (vals S a 12)[44]? = some (va_rf (pR S 1244 a)) := rfl
theorem gv_1245 (S : PS) (a : Nat) : (vals S a 12)[45]? = some (.int (pI S 1245 a)) := rfl
theorem gv_1246 (S : PS) (a : Nat) : (vals S a 12)[46]? = some (.int (pI S 1246 a)) := rfl
theorem gv_1247 (S : PS) (a : Nat) : (vals S a 12)[47]? = some (.int (pI S 1247 a)) := rfl
theorem gv_1248 (S : PS) (a : Nat) : (vals S a 12)[48]? = some (va_rf (pR S 1248 a)) := rfl
theorem gv_1249 (S : PS) (a : Nat) : (vals S a 12)[49]? = some (.int (pI S 1249 a)) := rfl
theorem gv_1250 (S : PS) (a : Nat) : (vals S a 12)[50]? = some (.int (pI S 1250 a)) := rfl
theorem gv_1251 (S : PS) (a : Nat) : (vals S a 12)[51]? = some (.int (pI S 1251 a)) := rfl
theorem gv_1252 (S : PS) (a : Nat) : (vals S a 12)[52]? = some (va_rf (pR S 1252 a)) := rfl
theorem gv_1253 (S : PS) (a : Nat) : (vals S a 12)[53]? = some (va_rf (pR S 1253 a)) := rfl
theorem gv_1254 (S : PS) (a : Nat) : (vals S a 12)[54]? = some (va_rf (pR S 1254 a)) := rfl
theorem gv_1255 (S : PS) (a : Nat) : (vals S a 12)[55]? = some (va_rf (pR S 1255 a)) := rfl
theorem gv_1256 (S : PS) (a : Nat) : (vals S a 12)[56]? = some (va_rf (pR S 1256 a)) := rfl
theorem gv_1257 (S : PS) (a : Nat) : (vals S a 12)[57]? = some (va_rf (pR S 1257 a)) := rfl
theorem gv_1258 (S : PS) (a : Nat) : (vals S a 12)[58]? = some (va_rf (pR S 1258 a)) := rfl
theorem gv_1259 (S : PS) (a : Nat) : (vals S a 12)[59]? = some (va_rf (pR S 1259 a)) := rfl
theorem gv_1260 (S : PS) (a : Nat) : (vals S a 12)[60]? = some (va_rf (pR S 1260 a)) := rfl
theorem gv_1261 (S : PS) (a : Nat) : (vals S a 12)[61]? = some (va_rf (pR S 1261 a)) := rfl
theorem gv_1262 (S : PS) (a : Nat) : (vals S a 12)[62]? = some (.int (pI S 1262 a)) := rfl
theorem gv_1263 (S : PS) (a : Nat) : (vals S a 12)[63]? = some (va_rf (pR S 1263 a)) := rfl
theorem gv_1264 (S : PS) (a : Nat) : (vals S a 12)[64]? = some (va_rf (pR S 1264 a)) := rfl
theorem gv_1265 (S : PS) (a : Nat) : (vals S a 12)[65]? = some (va_rf (pR S 1265 a)) := rfl
theorem zo_12 (S : PS) (q : Nat) : vals (sO S q 12) q 12 = [.int 0, .int 0, .null, .null, .null, .null, .null, .null, .null, .null, .null, .int 0, .null, .null, .null, .null, .null, .null, .null, .null, .null, .null, .null, .null, .null, .null, .null, .null, .int 0, .int 0, .int 0, .int 0, .int 0, .int 0, .int 0, .null, .null, .null, .int 0, .null, .null, .null, .null, .null, .null, .int 0, .int 0, .int 0, .null, .int 0, .int 0, .int 0, .null, .null, .null, .null, .null, .null, .null, .null, .null, .null, .int 0, .null, .null, .null] := by simp [vals, sO, pI, pR, va_rf]
theorem zd_12 : ∀ j, j < 66 → defaultValue (tyX12 j) = vp_V [.int 0, .int 0, .null, .null, .null, .null, .null, .null, .null, .null, .null, .int 0, .null, .null, .null, .null, .null, .null, .null, .null, .null, .null, .null, .null, .null, .null, .null, .null, .int 0, .int 0, .int 0, .int 0, .int 0, .int 0, .int 0, .null, .null, .null, .int 0, .null, .null, .null, .null, .null, .null, .int 0, .int 0, .int 0, .null, .int 0, .int 0, .int 0, .null, .null, .null, .null, .null, .null, .null, .null, .null, .null, .int 0, .null, .null, .null] j := by
  intro j hj
  have : ∀ j : Fin 66, defaultValue (tyX12 j) = vp_V [.int 0, .int 0, .null, .null, .null, .null, .null, .null, .null, .null, .null, .int 0, .null, .null, .null, .null, .null, .null, .null, .null, .null, .null, .null, .null, .null, .null, .null, .null, .int 0, .int 0, .int 0, .int 0, .int 0, .int 0, .int 0, .null, .null, .null, .int 0, .null, .null, .null, .null, .null, .null, .int 0, .int 0, .int 0, .null, .int 0, .int 0, .int 0, .null, .null, .null, .null, .null, .null, .null, .null, .null, .null, .int 0, .null, .null, .null] j := by decide +kernel
  exact this ⟨j, hj⟩
end
section
theorem pl_fresh {A : Nat → Prop} {cy : Nat → ClassId} {S : PS} {q : Nat} {e : va_E} (hD : va_D A (pool cy S ++ [(q, e)])) : q ∉ pL S := by
  intro hm
  obtain ⟨n, hn⟩ := pl_get (cy := cy) hm
  have hlt : n < (pool cy S).length := (List.getElem?_eq_some_iff.mp hn).1
  have e1 : (pool cy S ++ [(q, e)])[n]? = some (q, PF cy S q) := by rw [List.getElem?_append_left hlt]; exact hn
  have e2 : (pool cy S ++ [(q, e)])[(pool cy S).length]? = some (q, e) := by simp
  have := hD.1 n _ _ _ e1 e2 rfl
  omega
section PROWS
variable {p : Program} {l : Launch} {e : Env} {R : Room} {s : State} {m : MethodId} {args : Array Value} {below : List Frame} {meth : Method} {c : Code} {H : Heap} {locs : List Loc} {cells slots : Nat} {Q : State → Prop}
variable {cc : ByteArray} {pc nL : Nat} {ls : Array Slot} {rest : List Value} {Ts : List Cond} {own ref : String} {G : va_G} {cy : Nat → ClassId} {A : Nat → Prop} {S : PS} {a k index : Nat}
theorem r_get (X : Cx p c cc nL s args Ts own m G cy A) (hw : Wd G cy A s.heap S H locs) (ha : At S a k) (j : Nat) {C : String} {T : u_T} {N : Nat} {v : Value} (hk : k < 13) (hc : vwCl[k]? = some (C, T, N)) (hin : ∀ w ∈ u_ws C T N, w ∈ Ts) (hj : j < N) (hlink : (Cond.fieldLink own index ref (T j).2.1 (T j).2.2.1).before args s = true) (hsame : (T j).1 = ref) (hv : (vals S a k)[j]? = some v) (hdg : decode cc pc = .ok (.getfield index, 3))
    (kk : W p l e R s m args below meth c H locs cells slots Q (F0 m (pc + 3) ls (v :: rest))) : W p l e R s m args below meth c H locs cells slots Q (F0 m pc ls (.ref a :: rest)) := by
  obtain ⟨hx, hb, -, hts, hown, hK, -⟩ := X
  obtain ⟨n, hn⟩ := pl_get (cy := cy) ha.1
  rw [PF_O ha.2 hk] at hn
  exact va_get (D := G) (ci := k) (C := C) (T := T) (N := N) hx hb hts hin hown hK hw.1 n hn hc j hj hlink (fun x h => by rw [hsame] at h; exact h) hv hdg kk
theorem r_getR (X : Cx p c cc nL s args Ts own m G cy A) (hw : Wd G cy A s.heap S H locs) (ha : At S a k) (j : Nat) {C : String} {T : u_T} {N g q : Nat} (hq : pR S g a = some q) (hk : k < 13) (hc : vwCl[k]? = some (C, T, N)) (hin : ∀ w ∈ u_ws C T N, w ∈ Ts) (hj : j < N) (hlink : (Cond.fieldLink own index ref (T j).2.1 (T j).2.2.1).before args s = true) (hsame : (T j).1 = ref) (hv : (vals S a k)[j]? = some (va_rf (pR S g a))) (hdg : decode cc pc = .ok (.getfield index, 3))
    (kk : W p l e R s m args below meth c H locs cells slots Q (F0 m (pc + 3) ls (.ref q :: rest))) : W p l e R s m args below meth c H locs cells slots Q (F0 m pc ls (.ref a :: rest)) := by
  refine r_get X hw ha j hk hc hin hj hlink hsame (v := .ref q) ?_ hdg kk
  rw [hv, hq]; rfl
theorem r_putI (X : Cx p c cc nL s args Ts own m G cy A) (hw : Wd G cy A s.heap S H locs) (ha : At S a k) (j g : Nat) {C : String} {T : u_T} {N : Nat} {v : Int32} (ty0 : Nat → FieldType) (hk : k < 13) (hc : vwCl[k]? = some (C, T, N)) (hin : ∀ w ∈ u_ws C T N, w ∈ Ts) (hty : ∀ k, k < N → parseFieldDescriptor (T k).2.2.1 = some (ty0 k)) (hnm : ∀ a, a < N → ∀ b, b < N → a ≠ b → (T a).2.1 ≠ (T b).2.1) (hj : j < N) (hlink : (Cond.fieldLink own index ref (T j).2.1 (T j).2.2.1).before args s = true) (hsame : (T j).1 = ref) (hfin : (T j).2.2.2 = false ∨ ((T j).2.2.2 = true ∧ meth.name = "<init>" ∧ (T j).1 = own)) (hn : narrow (ty0 j) (.int v) = .int v) (hfit : fits (ty0 j) (.int v) = true) (hlen : j < (vals S a k).length) (hset : ∀ v, vals (sI S g a v) a k = (vals S a k).set j (.int v)) (hdg : decode cc pc = .ok (.putfield index, 3))
    (kk : ∀ (H1 : Heap) (locs1 : List Loc), Wd G cy A s.heap (sI S g a v) H1 locs1 → W p l e R s m args below meth c H1 locs1 cells slots Q (F0 m (pc + 3) ls rest)) : W p l e R s m args below meth c H locs cells slots Q (F0 m pc ls (.int v :: .ref a :: rest)) := by
  obtain ⟨hx, hb, -, hts, hown, hK, -⟩ := X
  obtain ⟨hP, hD, hS⟩ := hw
  obtain ⟨n, hn0⟩ := pl_get (cy := cy) ha.1
  have hn1 := hn0
  rw [PF_O ha.2 hk] at hn0
  have e1 : (pool cy S).set n (a, .inr (k, (vals S a k).set j (.int v))) = pool cy (sI S g a v) := pl_set hD ha.1 hn1 rfl (PF_sI ha.2 hk (hset v))
  rcases hfin with hf | ⟨hf, hi, ho⟩
  · refine va_put (D := G) (ci := k) (v := .int v) (ty := ty0 j) (C := C) (T := T) (N := N) hx hb hts hin ty0 hty hnm hown hK hP hD hS n hn0 hc j hj hlink (fun x h => by rw [hsame] at h; exact h) hf (hty j hj) hn hfit hlen hdg (fun H1 locs1 hP1 hD1 hS1 => ?_)
    rw [e1] at hP1 hD1
    exact kk H1 locs1 ⟨hP1, hD1, hS1⟩
  · refine va_putF (D := G) (ci := k) (v := .int v) (ty := ty0 j) (C := C) (T := T) (N := N) hx hb hts hin ty0 hty hnm hown hK hP hD hS n hn0 hc j hj hlink (fun x h => by rw [hsame] at h; exact h) hf hi ho (hty j hj) hn hfit hlen hdg (fun H1 locs1 hP1 hD1 hS1 => ?_)
    rw [e1] at hP1 hD1
    exact kk H1 locs1 ⟨hP1, hD1, hS1⟩
theorem r_putR (X : Cx p c cc nL s args Ts own m G cy A) (hw : Wd G cy A s.heap S H locs) (ha : At S a k) (j g : Nat) {C : String} {T : u_T} {N : Nat} {w : Value} (v : Option Nat) (hwv : va_rf v = w) (ty0 : Nat → FieldType) (hk : k < 13) (hc : vwCl[k]? = some (C, T, N)) (hin : ∀ w ∈ u_ws C T N, w ∈ Ts) (hty : ∀ k, k < N → parseFieldDescriptor (T k).2.2.1 = some (ty0 k)) (hnm : ∀ a, a < N → ∀ b, b < N → a ≠ b → (T a).2.1 ≠ (T b).2.1) (hj : j < N) (hlink : (Cond.fieldLink own index ref (T j).2.1 (T j).2.2.1).before args s = true) (hsame : (T j).1 = ref) (hfin : (T j).2.2.2 = false ∨ ((T j).2.2.2 = true ∧ meth.name = "<init>" ∧ (T j).1 = own)) (hn : ∀ q, narrow (ty0 j) (.ref q) = .ref q) (hn0 : narrow (ty0 j) .null = .null) (hfit : ∀ q, fits (ty0 j) (.ref q) = true) (hfit0 : fits (ty0 j) .null = true) (hlen : j < (vals S a k).length) (hset : ∀ v, vals (sR S g a v) a k = (vals S a k).set j (va_rf v)) (hdg : decode cc pc = .ok (.putfield index, 3))
    (kk : ∀ (H1 : Heap) (locs1 : List Loc), Wd G cy A s.heap (sR S g a v) H1 locs1 → W p l e R s m args below meth c H1 locs1 cells slots Q (F0 m (pc + 3) ls rest)) : W p l e R s m args below meth c H locs cells slots Q (F0 m pc ls (w :: .ref a :: rest)) := by
  obtain ⟨hx, hb, -, hts, hown, hK, -⟩ := X
  obtain ⟨hP, hD, hS⟩ := hw
  obtain ⟨n, hn2⟩ := pl_get (cy := cy) ha.1
  have hn1 := hn2
  rw [PF_O ha.2 hk] at hn2
  subst hwv
  have f1 : narrow (ty0 j) (va_rf v) = va_rf v := by
    cases v with
    | none => exact hn0
    | some q => exact hn q
  have f2 : fits (ty0 j) (va_rf v) = true := by
    cases v with
    | none => exact hfit0
    | some q => exact hfit q
  have e1 : (pool cy S).set n (a, .inr (k, (vals S a k).set j (va_rf v))) = pool cy (sR S g a v) := pl_set hD ha.1 hn1 rfl (PF_sR ha.2 hk (hset v))
  rcases hfin with hf | ⟨hf, hi, ho⟩
  · refine va_put (D := G) (ci := k) (v := va_rf v) (ty := ty0 j) (C := C) (T := T) (N := N) hx hb hts hin ty0 hty hnm hown hK hP hD hS n hn2 hc j hj hlink (fun x h => by rw [hsame] at h; exact h) hf (hty j hj) f1 f2 hlen hdg (fun H1 locs1 hP1 hD1 hS1 => ?_)
    rw [e1] at hP1 hD1
    exact kk H1 locs1 ⟨hP1, hD1, hS1⟩
  · refine va_putF (D := G) (ci := k) (v := va_rf v) (ty := ty0 j) (C := C) (T := T) (N := N) hx hb hts hin ty0 hty hnm hown hK hP hD hS n hn2 hc j hj hlink (fun x h => by rw [hsame] at h; exact h) hf hi ho (hty j hj) f1 f2 hlen hdg (fun H1 locs1 hP1 hD1 hS1 => ?_)
    rw [e1] at hP1 hD1
    exact kk H1 locs1 ⟨hP1, hD1, hS1⟩
theorem r_iald (X : Cx p c cc nL s args Ts own m G cy A) (hw : Wd G cy A s.heap S H locs) (ha : At S a 14) {i : Int32} (hi : vp_in i (pN S a)) (hdg : decode cc pc = .ok (.iaload, 1))
    (kk : W p l e R s m args below meth c H locs cells slots Q (F0 m (pc + 1) ls (.int (pA S a i.toNatClampNeg) :: rest))) : W p l e R s m args below meth c H locs cells slots Q (F0 m pc ls (.int i :: .ref a :: rest)) := by
  obtain ⟨hx, hb, -, hts, hown, hK, -⟩ := X
  obtain ⟨n, hn⟩ := pl_get (cy := cy) ha.1
  rw [PF_A ha.2 (by decide) (by decide)] at hn
  exact va_iald (D := G) hx hb hK hw.1 n 1 hn rfl hi hdg kk
theorem r_bald (X : Cx p c cc nL s args Ts own m G cy A) (hw : Wd G cy A s.heap S H locs) (ha : At S a 13) {i : Int32} (hi : vp_in i (pN S a)) (hdg : decode cc pc = .ok (.baload, 1))
    (kk : W p l e R s m args below meth c H locs cells slots Q (F0 m (pc + 1) ls (.int (pA S a i.toNatClampNeg) :: rest))) : W p l e R s m args below meth c H locs cells slots Q (F0 m pc ls (.int i :: .ref a :: rest)) := by
  obtain ⟨hx, hb, -, hts, hown, hK, -⟩ := X
  obtain ⟨n, hn⟩ := pl_get (cy := cy) ha.1
  rw [PF_A ha.2 (by decide) (by decide)] at hn
  exact va_bald (D := G) hx hb hK hw.1 n 0 hn rfl hi hdg kk
theorem r_zald (X : Cx p c cc nL s args Ts own m G cy A) (hw : Wd G cy A s.heap S H locs) (ha : At S a 15) {i : Int32} (hi : vp_in i (pN S a)) (hdg : decode cc pc = .ok (.baload, 1))
    (kk : W p l e R s m args below meth c H locs cells slots Q (F0 m (pc + 1) ls (.int (pA S a i.toNatClampNeg) :: rest))) : W p l e R s m args below meth c H locs cells slots Q (F0 m pc ls (.int i :: .ref a :: rest)) := by
  obtain ⟨hx, hb, -, hts, hown, hK, -⟩ := X
  obtain ⟨n, hn⟩ := pl_get (cy := cy) ha.1
  rw [PF_A ha.2 (by decide) (by decide)] at hn
  exact va_zald (D := G) hx hb hK hw.1 n 2 hn rfl hi hdg kk
theorem r_aald (X : Cx p c cc nL s args Ts own m G cy A) (hw : Wd G cy A s.heap S H locs) (ha : At S a k) {C : String} (hk : 16 ≤ k) (ht : (tysL cy)[k - 13]? = some (cy (k - 13), .object C)) {i : Int32} (hi : vp_in i (pN S a)) (hdg : decode cc pc = .ok (.aaload, 1))
    (kk : W p l e R s m args below meth c H locs cells slots Q (F0 m (pc + 1) ls (va_rf (pB S a i.toNatClampNeg) :: rest))) : W p l e R s m args below meth c H locs cells slots Q (F0 m pc ls (.int i :: .ref a :: rest)) := by
  obtain ⟨hx, hb, -, hts, hown, hK, -⟩ := X
  obtain ⟨n, hn⟩ := pl_get (cy := cy) ha.1
  rw [PF_B ha.2 hk] at hn
  exact va_aldq (D := G) (C := C) hx hb hK hw.1 n (k - 13) hn ht hi hdg kk
theorem r_iast (X : Cx p c cc nL s args Ts own m G cy A) (hw : Wd G cy A s.heap S H locs) (ha : At S a 14) {i x : Int32} (hi : vp_in i (pN S a)) (hdg : decode cc pc = .ok (.iastore, 1))
    (kk : ∀ (H1 : Heap) (locs1 : List Loc), Wd G cy A s.heap (sA S a (upd (pA S a) i.toNatClampNeg x)) H1 locs1 → W p l e R s m args below meth c H1 locs1 cells slots Q (F0 m (pc + 1) ls rest)) : W p l e R s m args below meth c H locs cells slots Q (F0 m pc ls (.int x :: .int i :: .ref a :: rest)) := by
  obtain ⟨hx, hb, -, hts, hown, hK, -⟩ := X
  obtain ⟨hP, hD, hS⟩ := hw
  obtain ⟨n, hn⟩ := pl_get (cy := cy) ha.1
  have hn1 := hn
  rw [PF_A ha.2 (by decide) (by decide)] at hn
  refine va_iast (D := G) hx hb hK hP hD hS n 1 hn rfl hi hdg (fun H1 locs1 hP1 hD1 hS1 => ?_)
  rw [pl_set (S' := sA S a (upd (pA S a) i.toNatClampNeg x)) hD ha.1 hn1 rfl (PF_sA ha.2 (by decide) (by decide))] at hP1 hD1
  exact kk H1 locs1 ⟨hP1, hD1, hS1⟩
theorem r_bast (X : Cx p c cc nL s args Ts own m G cy A) (hw : Wd G cy A s.heap S H locs) (ha : At S a 13) {i x : Int32} (hi : vp_in i (pN S a)) (hdg : decode cc pc = .ok (.bastore, 1))
    (kk : ∀ (H1 : Heap) (locs1 : List Loc), Wd G cy A s.heap (sA S a (upd (pA S a) i.toNatClampNeg (vp_nar .byte x))) H1 locs1 → W p l e R s m args below meth c H1 locs1 cells slots Q (F0 m (pc + 1) ls rest)) : W p l e R s m args below meth c H locs cells slots Q (F0 m pc ls (.int x :: .int i :: .ref a :: rest)) := by
  obtain ⟨hx, hb, -, hts, hown, hK, -⟩ := X
  obtain ⟨hP, hD, hS⟩ := hw
  obtain ⟨n, hn⟩ := pl_get (cy := cy) ha.1
  have hn1 := hn
  rw [PF_A ha.2 (by decide) (by decide)] at hn
  refine va_bast (D := G) hx hb hK hP hD hS n 0 hn rfl hi hdg (fun H1 locs1 hP1 hD1 hS1 => ?_)
  rw [pl_set (S' := sA S a (upd (pA S a) i.toNatClampNeg (vp_nar .byte x))) hD ha.1 hn1 rfl (PF_sA ha.2 (by decide) (by decide))] at hP1 hD1
  exact kk H1 locs1 ⟨hP1, hD1, hS1⟩
theorem r_zast (X : Cx p c cc nL s args Ts own m G cy A) (hw : Wd G cy A s.heap S H locs) (ha : At S a 15) {i x : Int32} (hi : vp_in i (pN S a)) (hdg : decode cc pc = .ok (.bastore, 1))
    (kk : ∀ (H1 : Heap) (locs1 : List Loc), Wd G cy A s.heap (sA S a (upd (pA S a) i.toNatClampNeg (vp_nar .boolean x))) H1 locs1 → W p l e R s m args below meth c H1 locs1 cells slots Q (F0 m (pc + 1) ls rest)) : W p l e R s m args below meth c H locs cells slots Q (F0 m pc ls (.int x :: .int i :: .ref a :: rest)) := by
  obtain ⟨hx, hb, -, hts, hown, hK, -⟩ := X
  obtain ⟨hP, hD, hS⟩ := hw
  obtain ⟨n, hn⟩ := pl_get (cy := cy) ha.1
  have hn1 := hn
  rw [PF_A ha.2 (by decide) (by decide)] at hn
  refine va_zast (D := G) hx hb hK hP hD hS n 2 hn rfl hi hdg (fun H1 locs1 hP1 hD1 hS1 => ?_)
  rw [pl_set (S' := sA S a (upd (pA S a) i.toNatClampNeg (vp_nar .boolean x))) hD ha.1 hn1 rfl (PF_sA ha.2 (by decide) (by decide))] at hP1 hD1
  exact kk H1 locs1 ⟨hP1, hD1, hS1⟩
theorem r_aast (X : Cx p c cc nL s args Ts own m G cy A) (hw : Wd G cy A s.heap S H locs) (ha : At S a k) {v k' : Nat} (hv : At S v k') {r : vw_C} (hk : 16 ≤ k) (hk' : k' < 13) (hc : vwCl[k']? = some r) (ht : (tysL cy)[k - 13]? = some (cy (k - 13), .object r.1)) {i : Int32} (hi : vp_in i (pN S a)) (hdg : decode cc pc = .ok (.aastore, 1))
    (kk : ∀ (H1 : Heap) (locs1 : List Loc), Wd G cy A s.heap (sB S a (va_up (pB S a) i.toNatClampNeg (some v))) H1 locs1 → W p l e R s m args below meth c H1 locs1 cells slots Q (F0 m (pc + 1) ls rest)) : W p l e R s m args below meth c H locs cells slots Q (F0 m pc ls (.ref v :: .int i :: .ref a :: rest)) := by
  obtain ⟨hx, hb, -, hts, hown, hK, -⟩ := X
  obtain ⟨hP, hD, hS⟩ := hw
  obtain ⟨n, hn⟩ := pl_get (cy := cy) ha.1
  have hn1 := hn
  rw [PF_B ha.2 hk] at hn
  obtain ⟨n', hn'⟩ := pl_get (cy := cy) hv.1
  rw [PF_O hv.2 hk'] at hn'
  refine va_astq (D := G) (r := r) hx hb hK hP hD hS n (k - 13) n' k' hn ht hn' hc hi hdg (fun H1 locs1 hP1 hD1 hS1 => ?_)
  rw [pl_set (S' := sB S a (va_up (pB S a) i.toNatClampNeg (some v))) hD ha.1 hn1 rfl (PF_sB ha.2 hk)] at hP1 hD1
  exact kk H1 locs1 ⟨hP1, hD1, hS1⟩
theorem r_alen (X : Cx p c cc nL s args Ts own m G cy A) (hw : Wd G cy A s.heap S H locs) (ha : At S a k) {ty : FieldType} (hk : 13 ≤ k) (ht : (tysL cy)[k - 13]? = some (cy (k - 13), ty)) (hdg : decode cc pc = .ok (.arraylength, 1))
    (kk : W p l e R s m args below meth c H locs cells slots Q (F0 m (pc + 1) ls (.int (nI (pN S a)) :: rest))) : W p l e R s m args below meth c H locs cells slots Q (F0 m pc ls (.ref a :: rest)) := by
  obtain ⟨hx, hb, -, hts, hown, hK, -⟩ := X
  obtain ⟨n, hn⟩ := pl_get (cy := cy) ha.1
  by_cases h2 : k < 16
  · rw [PF_A ha.2 hk h2] at hn
    exact va_alen (D := G) hx hb hK hw.1 n (k - 13) hn ht rfl hdg kk
  · rw [PF_B ha.2 (Nat.not_lt.mp h2)] at hn
    exact va_alen (D := G) hx hb hK hw.1 n (k - 13) hn ht rfl hdg kk
theorem r_new (X : Cx p c cc nL s args Ts own m G cy A) (hw : Wd G cy A s.heap S H locs) (k n2 c2 : Nat) {C : String} {T : u_T} {N : Nat} {z : List Value} (ty : Nat → FieldType) (hk : k < 13) (hc : vwCl[k]? = some (C, T, N)) (hin : ∀ w ∈ u_ws C T N, w ∈ Ts) (hty : ∀ k, k < N → parseFieldDescriptor (T k).2.2.1 = some (ty k)) (hcl : (Cond.classLink own index C).before args s = true) (hinst : (Cond.instantiable C N).before args s = true) (hini : (Cond.initialized C).before args s = true) (hz : ∀ S q, vals (sO S q k) q k = z) (hfs : ∀ j, j < N → defaultValue (ty j) = vp_V z j) (h1 : cells + 1 ≤ c2) (h2 : slots + N ≤ n2) (h3 : c2 ≤ R.cells) (h4 : n2 ≤ R.slots) (hdg : decode cc pc = .ok (.new index, 3))
    (kk : ∀ (q : Nat) (H1 : Heap), q ∉ pL S → Wd G cy A s.heap (sO S q k) H1 locs → W p l e R s m args below meth c H1 locs c2 n2 Q (F0 m (pc + 3) ls (.ref q :: rest))) : W p l e R s m args below meth c H locs cells slots Q (F0 m pc ls rest) := by
  obtain ⟨hx, hb, -, hts, hown, hK, hA⟩ := X
  obtain ⟨hP, hD, hS⟩ := hw
  refine va_new (ci := k) (fs := z) (C := C) (T := T) (N := N) hx hb hts hin ty hty hown hcl hinst hini hK hP hD hS hA hc hfs (Nat.le_trans h1 h3) (Nat.le_trans h2 h4) hdg (fun q H1 hP1 hD1 hS1 => ?_)
  have hq : q ∉ pL S := pl_fresh hD1
  rw [pl_push (S' := sO S q k) hq rfl (PF_sO hk (hz S q))] at hP1 hD1
  exact W.widen h1 h2 (kk q H1 hq ⟨hP1, hD1, hS1⟩)
theorem r_newI (X : Cx p c cc nL s args Ts own m G cy A) (hw : Wd G cy A s.heap S H locs) (n2 c2 : Nat) {n : Int32} {N : Nat} (harr : (Cond.arrayClass .int).before args s = true) (hn : ¬ n < 0) (hN : n.toNatClampNeg = N) (hbytes : N ≤ 1000000) (h1 : cells + 1 ≤ c2) (h2 : slots + N ≤ n2) (h3 : c2 ≤ R.cells) (h4 : n2 ≤ R.slots) (hdg : decode cc pc = .ok (.newarray .int, 2))
    (kk : ∀ (q : Nat) (H1 : Heap), q ∉ pL S → Wd G cy A s.heap (sN S q 14 N) H1 locs → W p l e R s m args below meth c H1 locs c2 n2 Q (F0 m (pc + 2) ls (.ref q :: rest))) : W p l e R s m args below meth c H locs cells slots Q (F0 m pc ls (.int n :: rest)) := by
  obtain ⟨hx, hb, -, hts, hown, hK, hA⟩ := X
  obtain ⟨hP, hD, hS⟩ := hw
  refine va_newa (atype := .int) (ty := .int) (a0 := (N, .inl (fun _ => 0))) hx hb harr rfl hK hP hD hS hA (fun cA => rfl) hn hN (Nat.le_trans (Nat.mul_le_mul_right 4 hbytes) (by decide)) (Nat.le_trans h1 h3) (Nat.le_trans h2 h4) hdg (fun q cA H1 hK1 hP1 hD1 hS1 => ?_)
  have ec : cA = cy 1 := Option.some.inj ((hK1.2 7 (cA, .int) rfl).2.symm.trans (hK1.2 1 (cy 1, .int) rfl).2)
  subst ec
  have hq : q ∉ pL S := pl_fresh hD1
  rw [pl_push (S' := sN S q 14 N) hq rfl (PF_sNA (k := 14) (by decide) (by decide))] at hP1 hD1
  exact W.widen h1 h2 (kk q H1 hq ⟨hP1, hD1, hS1⟩)
theorem r_newB (X : Cx p c cc nL s args Ts own m G cy A) (hw : Wd G cy A s.heap S H locs) (n2 c2 : Nat) {n : Int32} {N : Nat} (harr : (Cond.arrayClass .byte).before args s = true) (hn : ¬ n < 0) (hN : n.toNatClampNeg = N) (hbytes : N ≤ 1000000) (h1 : cells + 1 ≤ c2) (h2 : slots + N ≤ n2) (h3 : c2 ≤ R.cells) (h4 : n2 ≤ R.slots) (hdg : decode cc pc = .ok (.newarray .byte, 2))
    (kk : ∀ (q : Nat) (H1 : Heap), q ∉ pL S → Wd G cy A s.heap (sN S q 13 N) H1 locs → W p l e R s m args below meth c H1 locs c2 n2 Q (F0 m (pc + 2) ls (.ref q :: rest))) : W p l e R s m args below meth c H locs cells slots Q (F0 m pc ls (.int n :: rest)) := by
  obtain ⟨hx, hb, -, hts, hown, hK, hA⟩ := X
  obtain ⟨hP, hD, hS⟩ := hw
  refine va_newa (atype := .byte) (ty := .byte) (a0 := (N, .inl (fun _ => 0))) hx hb harr rfl hK hP hD hS hA (fun cA => rfl) hn hN (Nat.le_trans (Nat.mul_le_mul_right 1 hbytes) (by decide)) (Nat.le_trans h1 h3) (Nat.le_trans h2 h4) hdg (fun q cA H1 hK1 hP1 hD1 hS1 => ?_)
  have ec : cA = cy 0 := Option.some.inj ((hK1.2 7 (cA, .byte) rfl).2.symm.trans (hK1.2 0 (cy 0, .byte) rfl).2)
  subst ec
  have hq : q ∉ pL S := pl_fresh hD1
  rw [pl_push (S' := sN S q 13 N) hq rfl (PF_sNA (k := 13) (by decide) (by decide))] at hP1 hD1
  exact W.widen h1 h2 (kk q H1 hq ⟨hP1, hD1, hS1⟩)
theorem r_newZ (X : Cx p c cc nL s args Ts own m G cy A) (hw : Wd G cy A s.heap S H locs) (n2 c2 : Nat) {n : Int32} {N : Nat} (harr : (Cond.arrayClass .boolean).before args s = true) (hn : ¬ n < 0) (hN : n.toNatClampNeg = N) (hbytes : N ≤ 1000000) (h1 : cells + 1 ≤ c2) (h2 : slots + N ≤ n2) (h3 : c2 ≤ R.cells) (h4 : n2 ≤ R.slots) (hdg : decode cc pc = .ok (.newarray .boolean, 2))
    (kk : ∀ (q : Nat) (H1 : Heap), q ∉ pL S → Wd G cy A s.heap (sN S q 15 N) H1 locs → W p l e R s m args below meth c H1 locs c2 n2 Q (F0 m (pc + 2) ls (.ref q :: rest))) : W p l e R s m args below meth c H locs cells slots Q (F0 m pc ls (.int n :: rest)) := by
  obtain ⟨hx, hb, -, hts, hown, hK, hA⟩ := X
  obtain ⟨hP, hD, hS⟩ := hw
  refine va_newa (atype := .boolean) (ty := .boolean) (a0 := (N, .inl (fun _ => 0))) hx hb harr rfl hK hP hD hS hA (fun cA => rfl) hn hN (Nat.le_trans (Nat.mul_le_mul_right 1 hbytes) (by decide)) (Nat.le_trans h1 h3) (Nat.le_trans h2 h4) hdg (fun q cA H1 hK1 hP1 hD1 hS1 => ?_)
  have ec : cA = cy 2 := Option.some.inj ((hK1.2 7 (cA, .boolean) rfl).2.symm.trans (hK1.2 2 (cy 2, .boolean) rfl).2)
  subst ec
  have hq : q ∉ pL S := pl_fresh hD1
  rw [pl_push (S' := sN S q 15 N) hq rfl (PF_sNA (k := 15) (by decide) (by decide))] at hP1 hD1
  exact W.widen h1 h2 (kk q H1 hq ⟨hP1, hD1, hS1⟩)
theorem r_newQ (X : Cx p c cc nL s args Ts own m G cy A) (hw : Wd G cy A s.heap S H locs) (k n2 c2 : Nat) {C : String} {n : Int32} {N : Nat} (hk : 16 ≤ k) (ht : (tysL cy)[k - 13]? = some (cy (k - 13), .object C)) (hclink : (Cond.classLink own index C).before args s = true) (hover : va_AO C s) (hn : ¬ n < 0) (hN : n.toNatClampNeg = N) (hbytes : N ≤ 1000000) (h1 : cells + 1 ≤ c2) (h2 : slots + N ≤ n2) (h3 : c2 ≤ R.cells) (h4 : n2 ≤ R.slots) (hdg : decode cc pc = .ok (.anewarray index, 3))
    (kk : ∀ (q : Nat) (H1 : Heap), q ∉ pL S → Wd G cy A s.heap (sN S q k N) H1 locs → W p l e R s m args below meth c H1 locs c2 n2 Q (F0 m (pc + 3) ls (.ref q :: rest))) : W p l e R s m args below meth c H locs cells slots Q (F0 m pc ls (.int n :: rest)) := by
  obtain ⟨hx, hb, -, hts, hown, hK, hA⟩ := X
  obtain ⟨hP, hD, hS⟩ := hw
  refine va_newq (C := C) hx hb hown hclink hover hK hP hD hS hA hn hN (by omega) (Nat.le_trans h1 h3) (Nat.le_trans h2 h4) hdg (fun q cA H1 hK1 hP1 hD1 hS1 => ?_)
  have r1 := (hK1.2 7 (cA, .object C) rfl).2
  have r2 := (hK.2 (k - 13) (cy (k - 13), .object C) ht).2
  obtain ⟨_, _, _, _, _, f1⟩ := r1
  obtain ⟨_, _, _, _, _, f2⟩ := r2
  have ec : cA = cy (k - 13) := Option.some.inj (f1.symm.trans f2)
  subst ec
  have hq : q ∉ pL S := pl_fresh hD1
  rw [pl_push (S' := sN S q k N) hq rfl (PF_sNB hk)] at hP1 hD1
  exact W.widen h1 h2 (kk q H1 hq ⟨hP1, hD1, hS1⟩)
end PROWS
/-! ===== contracts over the pool ===== -/
def Pw (G : va_G) (cy : Nat → ClassId) (S : PS) (sz : Nat) : State → Prop := fun U => U.heap.size = sz ∧ va_P G vwCl (pool cy S) U.heap ∧ va_K G vwCl (tysL cy) U ∧ va_D (fun _ => True) (pool cy S)
def Bw (G : va_G) (cy : Nat → ClassId) (S : PS) (sz : Nat) : PS → State → Prop := fun S' t => va_P G vwCl (pool cy S') t.heap ∧ va_D (AS S sz) (pool cy S')
def Ci (l : Launch) (y : MethodName) (ws : List Cond) (rm : Room) (G : va_G) (cy : Nat → ClassId) (S : PS) (sz : Nat) (av : List Value) (post : Int32 → PS → Prop) : Prop := Met l y ws rm (va_Pc av (Pw G cy S sz)) (va_Qi post (Bw G cy S sz) (AS S sz)) rm.cells rm.slots (AS S sz)
def Cv (l : Launch) (y : MethodName) (ws : List Cond) (rm : Room) (G : va_G) (cy : Nat → ClassId) (S : PS) (sz : Nat) (av : List Value) (post : PS → Prop) : Prop := Met l y ws rm (va_Pc av (Pw G cy S sz)) (va_Qv post (Bw G cy S sz) (AS S sz)) rm.cells rm.slots (AS S sz)
def Cq (l : Launch) (y : MethodName) (ws : List Cond) (rm : Room) (G : va_G) (cy : Nat → ClassId) (S : PS) (sz : Nat) (av : List Value) (post : Option Nat → PS → Prop) : Prop := Met l y ws rm (va_Pc av (Pw G cy S sz)) (va_Qq post (Bw G cy S sz) (AS S sz)) rm.cells rm.slots (AS S sz)
theorem ent_m {l : Launch} {y : MethodName} {ws ws' : List Cond} {rm : Room} {G : va_G} {cy : Nat → ClassId} {S : PS} {sz : Nat} {av : List Value} {Qc : Array Value → State → Outcome → State → Prop} {cc : ByteArray} {maxL : Nat} {ret : Option FieldType} (hy : plainName y.cls = true) (hw : ws = Cond.code y cc maxL ret :: ws') (hlen : (lg_sl av).length ≤ maxL)
    (body : ∀ (p : Program) (e : Env) (s : State) (m : MethodId) (below : List Frame) (meth : Method) (c : Code) (ls : Array Slot), Cx p c cc maxL s av.toArray ws y.cls m G cy (AS S s.heap.size) → meth.sig.returnType = ret → meth.locks = false → meth.name = y.name → Wd G cy (AS S s.heap.size) s.heap S s.heap [] → lv_has ls maxL (lv_args 0 av) → sz = s.heap.size → W p l e rm s m av.toArray below meth c s.heap [] 0 0 (MQ below Qc av.toArray s rm.cells rm.slots (AS S sz)) (F0 m 0 ls [])) : Met l y ws rm (va_Pc av (Pw G cy S sz)) Qc rm.cells rm.slots (AS S sz) := by
  refine Met.ofW (cc := cc) (maxL := maxL) (ret := ret) hy hw ?_
  intro p e s m args below meth c s₁ B hml hv
  obtain ⟨rfl, hsz, hP, hK, hD⟩ := hv
  have hl := lv_entry av (n := maxL) hlen
  rw [lg_entry_eq]
  refine body p e s m below meth c _ ⟨B.exec, B.bytes, hml, atoms_spec (ws := ws) B.pre, findClass_of_methodNamed B.named, hK, fun q h => Or.inr h⟩ B.returns B.notSynchronized (name_of_methodNamed B.named B.method).1 ⟨hP, ?_, va_S.rf⟩ hl hsz.symm
  exact hD.weaken (fun k q hk _ => Or.inl (pl_mem hk))
section PCALLS
variable {p : Program} {l : Launch} {e : Env} {R : Room} {s : State} {m : MethodId} {args : Array Value} {below : List Frame} {meth : Method} {c : Code} {H : Heap} {locs : List Loc} {cells slots : Nat} {Q : State → Prop}
variable {cc : ByteArray} {pc nL : Nat} {ls : Array Slot} {rest : List Value} {Ts : List Cond} {own ref : String} {G : va_G} {cy : Nat → ClassId} {A : Nat → Prop} {S : PS} {a k index : Nat}
theorem ret_i {S0 S' : PS} {post : Int32 → PS → Prop} {v : Int32} {mc ms : Nat} (X : Cx p c cc nL s args Ts own m G cy (AS S0 s.heap.size)) (hw : Wd G cy (AS S0 s.heap.size) s.heap S' H locs) (hr : meth.sig.returnType = some .int) (hlocks : meth.locks = false) (h1 : cells ≤ mc) (h2 : slots ≤ ms) (hp : post v S') (hdg : decode cc pc = .ok (.ireturn, 1)) : W p l e R s m args below meth c H locs cells slots (MQ below (va_Qi post (Bw G cy S0 s.heap.size) (AS S0 s.heap.size)) args s mc ms (AS S0 s.heap.size)) (F0 m pc ls [.int v]) := by
  refine W.widen h1 h2 ?_
  exact W.iret X.1 X.2.1 hr (fun t ht hW => ⟨⟨v, S', rfl, hp, by rw [ht]; exact hw.1, hw.2.1⟩, hw.2.2.F ht⟩) hw.2.2.2.2 hdg hlocks
theorem ret_z {S0 S' : PS} {post : Int32 → PS → Prop} {v : Int32} {mc ms : Nat} (X : Cx p c cc nL s args Ts own m G cy (AS S0 s.heap.size)) (hw : Wd G cy (AS S0 s.heap.size) s.heap S' H locs) (hr : meth.sig.returnType = some .boolean) (hlocks : meth.locks = false) (h1 : cells ≤ mc) (h2 : slots ≤ ms) (hv : v = 0 ∨ v = 1) (hp : post v S') (hdg : decode cc pc = .ok (.ireturn, 1)) : W p l e R s m args below meth c H locs cells slots (MQ below (va_Qi post (Bw G cy S0 s.heap.size) (AS S0 s.heap.size)) args s mc ms (AS S0 s.heap.size)) (F0 m pc ls [.int v]) := by
  refine W.widen h1 h2 ?_
  exact W.zret X.1 X.2.1 hr (by rcases hv with h | h <;> (rw [h]; decide +kernel)) (fun t ht hW => ⟨⟨v, S', rfl, hp, by rw [ht]; exact hw.1, hw.2.1⟩, hw.2.2.F ht⟩) hw.2.2.2.2 hdg hlocks
theorem ret_v {S0 S' : PS} {post : PS → Prop} {mc ms : Nat} (X : Cx p c cc nL s args Ts own m G cy (AS S0 s.heap.size)) (hw : Wd G cy (AS S0 s.heap.size) s.heap S' H locs) (hr : meth.sig.returnType = none) (hlocks : meth.locks = false) (h1 : cells ≤ mc) (h2 : slots ≤ ms) (hp : post S') (hdg : decode cc pc = .ok (.return_, 1)) : W p l e R s m args below meth c H locs cells slots (MQ below (va_Qv post (Bw G cy S0 s.heap.size) (AS S0 s.heap.size)) args s mc ms (AS S0 s.heap.size)) (F0 m pc ls []) := by
  refine W.widen h1 h2 ?_
  exact W.vret X.1 X.2.1 hr (fun t ht hW => ⟨⟨S', rfl, hp, by rw [ht]; exact hw.1, hw.2.1⟩, hw.2.2.F ht⟩) hw.2.2.2.2 hdg hlocks
theorem ret_q {S0 S' : PS} {post : Option Nat → PS → Prop} {v : Value} {mc ms : Nat} {C : String} (r : Option Nat) (hv : va_rf r = v) (X : Cx p c cc nL s args Ts own m G cy (AS S0 s.heap.size)) (hw : Wd G cy (AS S0 s.heap.size) s.heap S' H locs) (hr : meth.sig.returnType = some (.object C)) (hlocks : meth.locks = false) (h1 : cells ≤ mc) (h2 : slots ≤ ms) (hp : post r S') (hdg : decode cc pc = .ok (.areturn, 1)) : W p l e R s m args below meth c H locs cells slots (MQ below (va_Qq post (Bw G cy S0 s.heap.size) (AS S0 s.heap.size)) args s mc ms (AS S0 s.heap.size)) (F0 m pc ls [v]) := by
  refine W.widen h1 h2 ?_
  subst hv
  exact W.aret X.1 X.2.1 hr (Or.inl ⟨C, rfl⟩) (va_rf_or r) (fun t ht hW => ⟨⟨r, S', rfl, hp, by rw [ht]; exact hw.1, hw.2.1⟩, hw.2.2.F ht⟩) hw.2.2.2.2 hdg hlocks
theorem cfix (X : Cx p c cc nL s args Ts own m G cy A) : CallFix p m c cc nL s args Ts own := ⟨X.1, X.2.1, X.2.2.1, X.2.2.2.2.1, X.2.2.2.1⟩
theorem pw_of (X : Cx p c cc nL s args Ts own m G cy A) (hw : Wd G cy A s.heap S H locs) {U : State} (hU : U.heap = H) (hvm : s.vm.Alike U.vm) : Pw G cy S H.size U := ⟨by rw [hU], by rw [hU]; exact hw.1, va_K.moved hvm X.2.2.2.2.2.1, hw.2.1.weaken (fun _ _ _ _ => trivial)⟩
theorem pw_blind {av : List Value} {sz : Nat} : FrameBlind (va_Pc av (Pw G cy S sz)) := fun a U g mk q => by
  obtain ⟨q0, q1, qP, qK, qD⟩ := q
  exact ⟨q0, q1, qP, va_K.moved (u := U) (U := U.calling g mk a) (Vm.Alike.refl U.vm) qK, qD⟩
theorem pre_S (X : Cx p c cc nL s args Ts own m G cy A) (hw : Wd G cy A s.heap S H locs) (av : List Value) : PreS s H (va_Pc av (Pw G cy S H.size)) av := ⟨pw_blind, fun U hU hW => ⟨rfl, pw_of X hw hU hW.alike⟩⟩
theorem pre_V (X : Cx p c cc nL s args Ts own m G cy A) (hw : Wd G cy A s.heap S H locs) (av : List Value) {b : Nat} (ha : At S b k) (hk : k < 13) {q : vw_C} (hc : vwCl[k]? = some q) : PreV s H q.1 b (va_Pc (.ref b :: av) (Pw G cy S H.size)) av := by
  obtain ⟨n, hn⟩ := pl_get (cy := cy) ha.1
  rw [PF_O ha.2 hk] at hn
  exact ⟨pw_blind, va_recv X.2.2.2.2.2.1 hw.1 hc hn, fun U hU hW => ⟨rfl, pw_of X hw hU hW.alike⟩⟩
theorem as_in (X : Cx p c cc nL s args Ts own m G cy A) (hw : Wd G cy A s.heap S H locs) : ∀ q, AS S H.size q → A q := by
  intro q h
  rcases h with h | h
  · obtain ⟨n, hn⟩ := pl_get (cy := cy) h
    exact hw.2.1.2 n _ hn
  · exact X.2.2.2.2.2.2 q (Nat.le_trans hw.2.2.1 h)
theorem bw_of {S' : PS} {t : State} {H1 : Heap} {locs1 : List Loc} (X : Cx p c cc nL s args Ts own m G cy A) (hw : Wd G cy A s.heap S H locs) (ht : t.heap = H1) (hB : Bw G cy S H.size S' t) (hS : va_S A s.heap H1 locs1) : Wd G cy A s.heap S' H1 locs1 := ⟨by rw [← ht]; exact hB.1, hB.2.weaken (fun _ q _ h => as_in X hw q.1 h), hS⟩
theorem bw_new {S' : PS} {t : State} {sz : Nat} (hB : Bw G cy S sz S' t) : ∀ q ∈ pL S', q ∈ pL S ∨ sz ≤ q := fun q hq => by
  obtain ⟨n, hn⟩ := pl_get (cy := cy) hq
  exact hB.2.2 n _ hn
theorem k_i {rm : Room} {av : List Value} {post : Int32 → PS → Prop} {st0 : List Value} (X : Cx p c cc nL s args Ts own m G cy A) (hw : Wd G cy A s.heap S H locs) (hrun : va_Run p l e R s m args below meth c H locs cells slots rm.cells rm.slots (F0 m pc ls st0) rest (va_Qi post (Bw G cy S H.size) (AS S H.size) av.toArray) (AS S H.size)) (c2 n2 : Nat) (h1 : cells + rm.cells ≤ c2) (h2 : slots + rm.slots ≤ n2)
    (kk : ∀ (r : Int32) (S' : PS) (H1 : Heap) (locs1 : List Loc), post r S' → Wd G cy A s.heap S' H1 locs1 → (∀ q, q < H.size → q ∉ pL S → H1[q]? = H[q]?) → (∀ q ∈ pL S', q ∈ pL S ∨ H.size ≤ q) → W p l e R s m args below meth c H1 locs1 c2 n2 Q (F0 m (pc + 3) ls (.int r :: rest))) : W p l e R s m args below meth c H locs cells slots Q (F0 m pc ls st0) := by
  refine va_calli hrun hw.2.2 (fun q _ h => as_in X hw q h) (as_in X hw) (fun r S' t H1 locs1 ht hvm hp hB hz hk hS => ?_)
  exact W.widen h1 h2 (kk r S' H1 locs1 hp (bw_of X hw ht hB hS) (fun q hq hn => hk q hq (fun h => h.elim hn (fun h => absurd hq (Nat.not_lt.mpr h)))) (bw_new hB))
theorem k_v {rm : Room} {av : List Value} {post : PS → Prop} {st0 : List Value} (X : Cx p c cc nL s args Ts own m G cy A) (hw : Wd G cy A s.heap S H locs) (hrun : va_Run p l e R s m args below meth c H locs cells slots rm.cells rm.slots (F0 m pc ls st0) rest (va_Qv post (Bw G cy S H.size) (AS S H.size) av.toArray) (AS S H.size)) (c2 n2 : Nat) (h1 : cells + rm.cells ≤ c2) (h2 : slots + rm.slots ≤ n2)
    (kk : ∀ (S' : PS) (H1 : Heap) (locs1 : List Loc), post S' → Wd G cy A s.heap S' H1 locs1 → (∀ q, q < H.size → q ∉ pL S → H1[q]? = H[q]?) → (∀ q ∈ pL S', q ∈ pL S ∨ H.size ≤ q) → W p l e R s m args below meth c H1 locs1 c2 n2 Q (F0 m (pc + 3) ls rest)) : W p l e R s m args below meth c H locs cells slots Q (F0 m pc ls st0) := by
  refine va_callv hrun hw.2.2 (fun q _ h => as_in X hw q h) (as_in X hw) (fun S' t H1 locs1 ht hvm hp hB hz hk hS => ?_)
  exact W.widen h1 h2 (kk S' H1 locs1 hp (bw_of X hw ht hB hS) (fun q hq hn => hk q hq (fun h => h.elim hn (fun h => absurd hq (Nat.not_lt.mpr h)))) (bw_new hB))
theorem k_q {rm : Room} {av : List Value} {post : Option Nat → PS → Prop} {st0 : List Value} (X : Cx p c cc nL s args Ts own m G cy A) (hw : Wd G cy A s.heap S H locs) (hrun : va_Run p l e R s m args below meth c H locs cells slots rm.cells rm.slots (F0 m pc ls st0) rest (va_Qq post (Bw G cy S H.size) (AS S H.size) av.toArray) (AS S H.size)) (c2 n2 : Nat) (h1 : cells + rm.cells ≤ c2) (h2 : slots + rm.slots ≤ n2)
    (kk : ∀ (r : Option Nat) (S' : PS) (H1 : Heap) (locs1 : List Loc), post r S' → Wd G cy A s.heap S' H1 locs1 → (∀ q, q < H.size → q ∉ pL S → H1[q]? = H[q]?) → (∀ q ∈ pL S', q ∈ pL S ∨ H.size ≤ q) → W p l e R s m args below meth c H1 locs1 c2 n2 Q (F0 m (pc + 3) ls (va_rf r :: rest))) : W p l e R s m args below meth c H locs cells slots Q (F0 m pc ls st0) := by
  refine va_callq hrun hw.2.2 (fun q _ h => as_in X hw q h) (as_in X hw) (fun r S' t H1 locs1 ht hvm hp hB hz hk hS => ?_)
  exact W.widen h1 h2 (kk r S' H1 locs1 hp (bw_of X hw ht hB hS) (fun q hq hn => hk q hq (fun h => h.elim hn (fun h => absurd hq (Nat.not_lt.mpr h)))) (bw_new hB))
end PCALLS
end
section
theorem pL_sI {S : PS} {g a : Nat} {v : Int32} : pL (sI S g a v) = pL S := rfl
theorem pK_sI {S : PS} {g a : Nat} {v : Int32} : pK (sI S g a v) = pK S := rfl
theorem pR_sI {S : PS} {g a : Nat} {v : Int32} : pR (sI S g a v) = pR S := rfl
theorem pN_sI {S : PS} {g a : Nat} {v : Int32} : pN (sI S g a v) = pN S := rfl
theorem pA_sI {S : PS} {g a : Nat} {v : Int32} : pA (sI S g a v) = pA S := rfl
theorem pB_sI {S : PS} {g a : Nat} {v : Int32} : pB (sI S g a v) = pB S := rfl
theorem pL_sR {S : PS} {g a : Nat} {v : Option Nat} : pL (sR S g a v) = pL S := rfl
theorem pK_sR {S : PS} {g a : Nat} {v : Option Nat} : pK (sR S g a v) = pK S := rfl
theorem pI_sR {S : PS} {g a : Nat} {v : Option Nat} : pI (sR S g a v) = pI S := rfl
theorem pN_sR {S : PS} {g a : Nat} {v : Option Nat} : pN (sR S g a v) = pN S := rfl
theorem pA_sR {S : PS} {g a : Nat} {v : Option Nat} : pA (sR S g a v) = pA S := rfl
theorem pB_sR {S : PS} {g a : Nat} {v : Option Nat} : pB (sR S g a v) = pB S := rfl
theorem pL_sA {S : PS} {a : Nat} {f : Nat → Int32} : pL (sA S a f) = pL S := rfl
theorem pK_sA {S : PS} {a : Nat} {f : Nat → Int32} : pK (sA S a f) = pK S := rfl
theorem pI_sA {S : PS} {a : Nat} {f : Nat → Int32} : pI (sA S a f) = pI S := rfl
theorem pR_sA {S : PS} {a : Nat} {f : Nat → Int32} : pR (sA S a f) = pR S := rfl
theorem pN_sA {S : PS} {a : Nat} {f : Nat → Int32} : pN (sA S a f) = pN S := rfl
theorem pB_sA {S : PS} {a : Nat} {f : Nat → Int32} : pB (sA S a f) = pB S := rfl
theorem pL_sB {S : PS} {a : Nat} {f : Nat → Option Nat} : pL (sB S a f) = pL S := rfl
theorem pK_sB {S : PS} {a : Nat} {f : Nat → Option Nat} : pK (sB S a f) = pK S := rfl
theorem pI_sB {S : PS} {a : Nat} {f : Nat → Option Nat} : pI (sB S a f) = pI S := rfl
theorem pR_sB {S : PS} {a : Nat} {f : Nat → Option Nat} : pR (sB S a f) = pR S := rfl
theorem pN_sB {S : PS} {a : Nat} {f : Nat → Option Nat} : pN (sB S a f) = pN S := rfl
theorem pA_sB {S : PS} {a : Nat} {f : Nat → Option Nat} : pA (sB S a f) = pA S := rfl
theorem pI_sN {S : PS} {q k n : Nat} : pI (sN S q k n) = pI S := rfl
theorem pR_sN {S : PS} {q k n : Nat} : pR (sN S q k n) = pR S := rfl
theorem pN_sO {S : PS} {q k : Nat} : pN (sO S q k) = pN S := rfl
theorem pA_sO {S : PS} {q k : Nat} : pA (sO S q k) = pA S := rfl
theorem pB_sO {S : PS} {q k : Nat} : pB (sO S q k) = pB S := rfl
theorem pI_sI_nf {S : PS} {g a x y : Nat} {v : Int32} (h : x ≠ g) : pI (sI S g a v) x y = pI S x y := u2_nf _ _ h
theorem pI_sI_same {S : PS} {g a : Nat} {v : Int32} : pI (sI S g a v) g a = v := u2_same _ _ _ _
theorem pR_sR_nf {S : PS} {g a x y : Nat} {v : Option Nat} (h : x ≠ g) : pR (sR S g a v) x y = pR S x y := u2_nf _ _ h
theorem pR_sR_same {S : PS} {g a : Nat} {v : Option Nat} : pR (sR S g a v) g a = v := u2_same _ _ _ _
theorem pI_sO_ne {S : PS} {q k g a : Nat} (h : a ≠ q) : pI (sO S q k) g a = pI S g a := if_neg h
theorem pR_sO_ne {S : PS} {q k g a : Nat} (h : a ≠ q) : pR (sO S q k) g a = pR S g a := if_neg h
theorem pI_sO_new {S : PS} {q k g : Nat} : pI (sO S q k) g q = 0 := if_pos rfl
theorem pN_sN_ne {S : PS} {q k n a : Nat} (h : a ≠ q) : pN (sN S q k n) a = pN S a := if_neg h
theorem pN_sN_new {S : PS} {q k n : Nat} : pN (sN S q k n) q = n := if_pos rfl
theorem pA_sN_ne {S : PS} {q k n a : Nat} (h : a ≠ q) : pA (sN S q k n) a = pA S a := if_neg h
theorem pA_sN_new {S : PS} {q k n : Nat} : pA (sN S q k n) q = fun _ => 0 := if_pos rfl
theorem pA_sA_ne {S : PS} {b a : Nat} {f : Nat → Int32} (h : a ≠ b) : pA (sA S b f) a = pA S a := if_neg h
abbrev wi (v lo hi : Int32) : Prop := lo ≤ v ∧ v ≤ hi
theorem wi_vp {v hi : Int32} {n : Nat} (h : wi v 0 hi) (hn : hi.toInt < n) : vp_in v n := by
  have h1 := Int32.le_iff_toInt_le.mp h.1
  have h2 := Int32.le_iff_toInt_le.mp h.2
  have e1 : (0 : Int32).toInt = 0 := by decide
  exact vp_in_iff.mpr ⟨by omega, by omega⟩
def lotV (n b l f : Int32) : Int32 := if wi n 1 60 ∧ wi b 20 60 ∧ wi l 40 200 ∧ wi f 0 200 then 0 else -1
def potV (t f : Int32) : Int32 := if wi t 10 2000 ∧ wi f 1 50 then 0 else -1
def endV (n : Int32) : Int32 := if wi n 0 0 then n else -1
def takV (p k : Int32) : Int32 := if wi p 0 15 ∧ wi k 0 2 then -2 else -1
def priV (g v : Int32) : Int32 := if wi g 0 3 ∧ wi v 0 1000 then 1 else 0
def shvV (p k a : Int32) : Int32 := if wi p 0 15 ∧ (k = 1 ∨ k = 2 ∧ wi a 0 8) then 1 else 0
def cntV (w : Int32) : Int32 := if 0 ≤ w.toInt ∧ w.toInt ≤ 11 then 0 else -1
theorem wi_f1 {v lo hi : Int32} (h : v < lo) : ¬ wi v lo hi := fun q => absurd q.1 (Int32.not_le.mpr h)
theorem wi_f2 {v lo hi : Int32} (h : hi < v) : ¬ wi v lo hi := fun q => absurd q.2 (Int32.not_le.mpr h)
theorem wi_t {v lo hi : Int32} (h : ¬ v < lo) (h2 : ¬ hi < v) : wi v lo hi := ⟨Int32.not_lt.mp h, Int32.not_lt.mp h2⟩
theorem wi_nn (v : Int32) : ¬ wi v 0 (-1) := fun q => by
  have h1 := Int32.le_iff_toInt_le.mp q.1
  have h2 := Int32.le_iff_toInt_le.mp q.2
  have e1 : (0 : Int32).toInt = 0 := by decide
  have e2 : (-1 : Int32).toInt = -1 := by decide
  omega
theorem wi_00 {v : Int32} (h : wi v 0 0) : v = 0 := by
  have h1 := Int32.le_iff_toInt_le.mp h.1
  have h2 := Int32.le_iff_toInt_le.mp h.2
  have e1 : (0 : Int32).toInt = 0 := by decide
  exact Int32.toInt_inj.mp (by omega)
/-! ===== what a method leaves alone ===== -/
def Kp (S S' : PS) (P : Nat → Prop) : Prop := (∀ a ∈ pL S, a ∈ pL S' ∧ pK S' a = pK S a) ∧ ∀ a ∈ pL S, ¬ P a → (∀ g, pI S' g a = pI S g a) ∧ (∀ g, pR S' g a = pR S g a) ∧ pN S' a = pN S a ∧ pA S' a = pA S a ∧ pB S' a = pB S a
theorem Kp_rf (S : PS) (P : Nat → Prop) : Kp S S P := ⟨fun _ h => ⟨h, rfl⟩, fun _ h _ => ⟨fun _ => rfl, fun _ => rfl, rfl, rfl, rfl⟩⟩
theorem Kp_tr {S S1 S2 : PS} {P : Nat → Prop} (h : Kp S S1 P) (h2 : Kp S1 S2 P) : Kp S S2 P := ⟨fun a ha => ⟨(h2.1 a (h.1 a ha).1).1, ((h2.1 a (h.1 a ha).1).2).trans (h.1 a ha).2⟩, fun a ha hp => by
  obtain ⟨a3, a4, a5, a6, a7⟩ := h.2 a ha hp
  obtain ⟨b3, b4, b5, b6, b7⟩ := h2.2 a (h.1 a ha).1 hp
  exact ⟨fun g => (b3 g).trans (a3 g), fun g => (b4 g).trans (a4 g), b5.trans a5, b6.trans a6, b7.trans a7⟩⟩
theorem Kp_mono {S S1 : PS} {P P' : Nat → Prop} (h : Kp S S1 P) (hp : ∀ a, a ∈ pL S → P a → P' a) : Kp S S1 P' := ⟨h.1, fun a ha hn => h.2 a ha (fun q => hn (hp a ha q))⟩
theorem Kp_ne {S0 : PS} {P : Nat → Prop} {a o : Nat} (ha : a ∈ pL S0) (hp : ¬ P a) (ho : P o ∨ o ∉ pL S0) : a ≠ o := fun q => ho.elim (fun z => hp (q ▸ z)) (fun z => z (q ▸ ha))
theorem Kp_sI {S0 S : PS} {P : Nat → Prop} {g o : Nat} {v : Int32} (h : Kp S0 S P) (ho : P o ∨ o ∉ pL S0) : Kp S0 (sI S g o v) P := ⟨h.1, fun a ha hp => by
  obtain ⟨a3, a4, a5, a6, a7⟩ := h.2 a ha hp
  exact ⟨fun g' => (u2_ne _ _ (Kp_ne ha hp ho)).trans (a3 g'), a4, a5, a6, a7⟩⟩
theorem Kp_sR {S0 S : PS} {P : Nat → Prop} {g o : Nat} {v : Option Nat} (h : Kp S0 S P) (ho : P o ∨ o ∉ pL S0) : Kp S0 (sR S g o v) P := ⟨h.1, fun a ha hp => by
  obtain ⟨a3, a4, a5, a6, a7⟩ := h.2 a ha hp
  exact ⟨a3, fun g' => (u2_ne _ _ (Kp_ne ha hp ho)).trans (a4 g'), a5, a6, a7⟩⟩
theorem Kp_sA {S0 S : PS} {P : Nat → Prop} {o : Nat} {f : Nat → Int32} (h : Kp S0 S P) (ho : P o ∨ o ∉ pL S0) : Kp S0 (sA S o f) P := ⟨h.1, fun a ha hp => by
  obtain ⟨a3, a4, a5, a6, a7⟩ := h.2 a ha hp
  exact ⟨a3, a4, a5, (if_neg (Kp_ne ha hp ho)).trans a6, a7⟩⟩
theorem Kp_sB {S0 S : PS} {P : Nat → Prop} {o : Nat} {f : Nat → Option Nat} (h : Kp S0 S P) (ho : P o ∨ o ∉ pL S0) : Kp S0 (sB S o f) P := ⟨h.1, fun a ha hp => by
  obtain ⟨a3, a4, a5, a6, a7⟩ := h.2 a ha hp
  exact ⟨a3, a4, a5, a6, (if_neg (Kp_ne ha hp ho)).trans a7⟩⟩
theorem Kp_new {S0 S : PS} {P : Nat → Prop} {q : Nat} (h : Kp S0 S P) (hq : q ∉ pL S) : q ∉ pL S0 := fun z => hq (h.1 q z).1
theorem Kp_sO {S0 S : PS} {P : Nat → Prop} {q k : Nat} (h : Kp S0 S P) (hq : q ∉ pL S) : Kp S0 (sO S q k) P := ⟨fun a ha => ⟨List.mem_append_left _ (h.1 a ha).1, (if_neg (fun z : a = q => Kp_new h hq (z ▸ ha))).trans (h.1 a ha).2⟩, fun a ha hp => by
  obtain ⟨a3, a4, a5, a6, a7⟩ := h.2 a ha hp
  have hne : a ≠ q := fun z => Kp_new h hq (z ▸ ha)
  exact ⟨fun g' => (if_neg hne).trans (a3 g'), fun g' => (if_neg hne).trans (a4 g'), a5, a6, a7⟩⟩
theorem Kp_sN {S0 S : PS} {P : Nat → Prop} {q k n : Nat} (h : Kp S0 S P) (hq : q ∉ pL S) : Kp S0 (sN S q k n) P := ⟨fun a ha => ⟨List.mem_append_left _ (h.1 a ha).1, (if_neg (fun z : a = q => Kp_new h hq (z ▸ ha))).trans (h.1 a ha).2⟩, fun a ha hp => by
  obtain ⟨a3, a4, a5, a6, a7⟩ := h.2 a ha hp
  have hne : a ≠ q := fun z => Kp_new h hq (z ▸ ha)
  exact ⟨a3, a4, (if_neg hne).trans a5, (if_neg hne).trans a6, (if_neg hne).trans a7⟩⟩
theorem Kp_at {S S' : PS} {P : Nat → Prop} {a k : Nat} (h : Kp S S' P) (ha : At S a k) : At S' a k := ⟨(h.1 a ha.1).1, ((h.1 a ha.1).2).trans ha.2⟩
theorem Kp_call {S0 S S' : PS} {P : Nat → Prop} {q : Nat} (h : Kp S0 S P) (h2 : Kp S S' (fun a => a = q)) (ho : P q ∨ q ∉ pL S0) : Kp S0 S' P := ⟨fun a ha => ⟨(h2.1 a (h.1 a ha).1).1, ((h2.1 a (h.1 a ha).1).2).trans (h.1 a ha).2⟩, fun a ha hp => by
  obtain ⟨a3, a4, a5, a6, a7⟩ := h.2 a ha hp
  obtain ⟨b3, b4, b5, b6, b7⟩ := h2.2 a (h.1 a ha).1 (Kp_ne ha hp ho)
  exact ⟨fun g => (b3 g).trans (a3 g), fun g => (b4 g).trans (a4 g), b5.trans a5, b6.trans a6, b7.trans a7⟩⟩
/-- an array that a field holds -/
def Fa (S : PS) (m g k n : Nat) : Prop := ∃ q, pR S g m = some q ∧ At S q k ∧ pN S q = n
theorem Fa_keep {S S' : PS} {P : Nat → Prop} {m g k n : Nat} (h : Kp S S' P) (hm : m ∈ pL S) (hp : ¬ P m) (hq : ∀ q, At S q k → ¬ P q) (f : Fa S m g k n) : Fa S' m g k n := by
  obtain ⟨q, h1, h2, h3⟩ := f
  exact ⟨q, ((h.2 m hm hp).2.1 g).trans h1, Kp_at h h2, ((h.2 q h2.1 (hq q h2)).2.2.1).trans h3⟩
theorem Fa_new {S : PS} {m g q k n : Nat} (hm : m ≠ q) : Fa (sR (sN S q k n) g m (some q)) m g k n := ⟨q, u2_same _ _ _ _, At_sR (At_nN _ _ _ _), if_pos rfl⟩
theorem Fa_step {S : PS} {m g q k n g' k' n' : Nat} (hq : q ∉ pL S) (hg : g' ≠ g) (f : Fa S m g' k' n') : Fa (sR (sN S q k n) g m (some q)) m g' k' n' := by
  obtain ⟨q', h1, h2, h3⟩ := f
  exact ⟨q', (u2_nf _ _ hg).trans h1, At_sR (At_sN h2 hq), (if_neg (At_old h2 hq)).trans h3⟩
theorem Fa_sI {S : PS} {m g a g' k' n' : Nat} {v : Int32} (f : Fa S m g' k' n') : Fa (sI S g a v) m g' k' n' := f
/-! ===== fresh objects ===== -/
def PlF (S : PS) (pl : Nat) : Prop := At S pl 3 ∧ pI S 300 pl = (-1) ∧ pI S 301 pl = 0 ∧ Fa S pl 302 14 8
def TpF (S : PS) (t : Nat) : Prop := At S t 10 ∧ pI S 1000 t = 0 ∧ pI S 1002 t = (-1) ∧ Fa S t 1003 13 400
def MxF (S : PS) (t : Nat) : Prop := At S t 2
def StF (S : PS) (t : Nat) : Prop := At S t 8 ∧ (∀ g, g < 807 → pI S g t = 0) ∧ Fa S t 807 14 4 ∧ ∃ mx, pR S 812 t = some mx ∧ MxF S mx
def DrF (S : PS) (t : Nat) : Prop := At S t 1 ∧ pI S 101 t = 0
def FXi (S : PS) (x i : Nat) : Prop := At S x 11 ∧ pI S 1102 x = 0 ∧ pI S 1104 x = 0 ∧ pI S 1110 x = 0 ∧ Fa S x 1100 16 600 ∧ Fa S x 1101 14 10 ∧ Fa S x 1103 18 4 ∧ (∃ t, pR S 1105 x = some t ∧ TpF S t) ∧ (∃ t, pR S 1107 x = some t ∧ StF S t) ∧ (∃ t, pR S 1108 x = some t ∧ DrF S t) ∧ ∃ sh, pR S 1109 x = some sh ∧ At S sh 17 ∧ pN S sh = 16 ∧ ∀ k, k < i → ∃ pl, pB S sh k = some pl ∧ PlF S pl
def FX (S : PS) (x : Nat) : Prop := FXi S x 16
def marr : List (Nat × Nat × Nat) := [(1202, 14, 10), (1203, 14, 10), (1204, 14, 10), (1205, 14, 10), (1206, 14, 10), (1207, 14, 600), (1208, 14, 600), (1209, 14, 600), (1210, 14, 8), (1212, 14, 4), (1213, 14, 4), (1214, 14, 4), (1215, 14, 4), (1216, 14, 4), (1217, 14, 4), (1218, 14, 7200), (1219, 14, 12), (1220, 14, 5), (1221, 14, 60), (1222, 14, 60), (1223, 14, 60), (1224, 14, 240), (1225, 14, 240), (1226, 14, 240), (1227, 13, 400), (1235, 14, 13200), (1236, 14, 158400), (1237, 14, 4), (1239, 14, 41), (1240, 14, 40), (1241, 14, 40), (1242, 14, 40), (1243, 14, 40), (1244, 15, 40), (1248, 14, 4), (1252, 14, 5), (1253, 15, 16), (1254, 14, 16), (1255, 14, 16), (1256, 14, 16), (1257, 14, 128), (1258, 14, 14), (1259, 14, 14), (1260, 14, 14), (1261, 15, 40), (1263, 14, 40), (1264, 14, 40), (1265, 14, 40)]
def FM (S : PS) (m : Nat) : Prop := At S m 12 ∧ (∀ g, g ∈ [1201, 1211, 1228, 1238, 1245, 1246, 1251, 1262] → pI S g m = 0) ∧ pI S 1229 m = (-1) ∧ (∀ x ∈ marr, Fa S m x.1 x.2.1 x.2.2) ∧ (∀ q, pR S 1253 m = some q → ∀ j, pA S q j = 0) ∧ ∀ q, pR S 1239 m = some q → ∀ j, pA S q j = 0
theorem kne {S : PS} {a ka k : Nat} (ha : At S a ka) (hk : k ≠ ka) : ∀ q, At S q k → ¬ (q = a) := fun q hq e => hk (by rw [← hq.2, e, ha.2])
theorem TpF_keep {S S' : PS} {P : Nat → Prop} {t : Nat} (h : Kp S S' P) (h1 : ∀ q, At S q 10 → ¬ P q) (h2 : ∀ q, At S q 13 → ¬ P q) (f : TpF S t) : TpF S' t := ⟨Kp_at h f.1, ((h.2 t f.1.1 (h1 t f.1)).1 1000).trans f.2.1, ((h.2 t f.1.1 (h1 t f.1)).1 1002).trans f.2.2.1, Fa_keep h f.1.1 (h1 t f.1) h2 f.2.2.2⟩
theorem StF_keep {S S' : PS} {P : Nat → Prop} {t : Nat} (h : Kp S S' P) (h1 : ∀ q, At S q 8 → ¬ P q) (h2 : ∀ q, At S q 14 → ¬ P q) (f : StF S t) : StF S' t := by
  obtain ⟨f1, f2, f3, mx, f4, f5⟩ := f
  exact ⟨Kp_at h f1, fun g hg => ((h.2 t f1.1 (h1 t f1)).1 g).trans (f2 g hg), Fa_keep h f1.1 (h1 t f1) h2 f3, mx, ((h.2 t f1.1 (h1 t f1)).2.1 812).trans f4, Kp_at h f5⟩
theorem DrF_keep {S S' : PS} {P : Nat → Prop} {t : Nat} (h : Kp S S' P) (h1 : ∀ q, At S q 1 → ¬ P q) (f : DrF S t) : DrF S' t := ⟨Kp_at h f.1, ((h.2 t f.1.1 (h1 t f.1)).1 101).trans f.2⟩
theorem PlF_keep {S S' : PS} {P : Nat → Prop} {t : Nat} (h : Kp S S' P) (h1 : ∀ q, At S q 3 → ¬ P q) (h2 : ∀ q, At S q 14 → ¬ P q) (f : PlF S t) : PlF S' t := ⟨Kp_at h f.1, ((h.2 t f.1.1 (h1 t f.1)).1 300).trans f.2.1, ((h.2 t f.1.1 (h1 t f.1)).1 301).trans f.2.2.1, Fa_keep h f.1.1 (h1 t f.1) h2 f.2.2.2⟩
theorem FXi_new {S S' : PS} {x i : Nat} (h : Kp S S' (fun _ => False)) (f : FXi S x i) : FXi S' x i := by
  obtain ⟨f1, f2, f3, f4, f5, f6, f7, ⟨t1, g1, g2⟩, ⟨t2, g3, g4⟩, ⟨t3, g5, g6⟩, sh, g7, g8, g9, g10⟩ := f
  have z : ∀ k q, At S q k → ¬ (fun _ : Nat => False) q := fun _ _ _ w => w
  have hx := h.2 x f1.1 (fun w => w)
  have hs := h.2 sh g8.1 (fun w => w)
  refine ⟨Kp_at h f1, (hx.1 _).trans f2, (hx.1 _).trans f3, (hx.1 _).trans f4, Fa_keep h f1.1 (fun w => w) (z 16) f5, Fa_keep h f1.1 (fun w => w) (z 14) f6, Fa_keep h f1.1 (fun w => w) (z 18) f7, ⟨t1, (hx.2.1 _).trans g1, TpF_keep h (z 10) (z 13) g2⟩, ⟨t2, (hx.2.1 _).trans g3, StF_keep h (z 8) (z 14) g4⟩, ⟨t3, (hx.2.1 _).trans g5, DrF_keep h (z 1) g6⟩, sh, (hx.2.1 _).trans g7, Kp_at h g8, hs.2.2.1.trans g9, fun k hk => ?_⟩
  obtain ⟨pl, j1, j2⟩ := g10 k hk
  exact ⟨pl, (congrFun hs.2.2.2.2 k).trans j1, PlF_keep h (z 3) (z 14) j2⟩
theorem FXi_put {S : PS} {x i sh q : Nat} (f : FXi S x i) (hsh : pR S 1109 x = some sh) (hq : PlF S q) : FXi (sB S sh (va_up (pB S sh) i (some q))) x (i + 1) := by
  obtain ⟨f1, f2, f3, f4, f5, f6, f7, f8, f9, f10, sh', g7, g8, g9, g10⟩ := f
  rw [hsh] at g7
  cases g7
  refine ⟨f1, f2, f3, f4, f5, f6, f7, f8, f9, f10, sh, hsh, g8, g9, fun k hk => ?_⟩
  have e1 : pB (sB S sh (va_up (pB S sh) i (some q))) sh = va_up (pB S sh) i (some q) := if_pos rfl
  rw [e1]
  by_cases h : k = i
  · subst h
    exact ⟨q, if_pos rfl, hq⟩
  · obtain ⟨pl, j1, j2⟩ := g10 k (by omega)
    exact ⟨pl, (if_neg h).trans j1, j2⟩
theorem FXi_step {S S2 : PS} {x i sh q : Nat} (f : FXi S x i) (hq : q ∉ pL S) (hk : Kp (sO S q 3) S2 (fun a => a = q)) (hp : PlF S2 q) (hsh : pR S2 1109 x = some sh) : FXi (sB S2 sh (va_up (pB S2 sh) i (some q))) x (i + 1) :=
  FXi_put (FXi_new (Kp_call (Kp_sO (Kp_rf S _) hq) hk (Or.inr hq)) f) hsh hp
def FaA (S : PS) (m : Nat) (xs : List (Nat × Nat × Nat)) : Prop := ∀ x ∈ xs, Fa S m x.1 x.2.1 x.2.2
theorem FaA_nil (S : PS) (m : Nat) : FaA S m [] := fun x h => by cases h
theorem FaA_cons {S : PS} {m g k n : Nat} {xs : List (Nat × Nat × Nat)} (h : Fa S m g k n) (h2 : FaA S m xs) : FaA S m ((g, k, n) :: xs) := fun x hx => by
  rcases List.mem_cons.mp hx with e | e
  · rw [e]; exact h
  · exact h2 x e
theorem FaA_sN {S : PS} {m q k n : Nat} {xs : List (Nat × Nat × Nat)} (h : FaA S m xs) (hq : q ∉ pL S) : FaA (sN S q k n) m xs := fun x hx => by
  obtain ⟨q', h1, h2, h3⟩ := h x hx
  exact ⟨q', h1, At_sN h2 hq, (if_neg (At_old h2 hq)).trans h3⟩
theorem FaA_sR {S : PS} {m g : Nat} {v : Option Nat} {xs : List (Nat × Nat × Nat)} (h : FaA S m xs) (hg : xs.all (fun x => x.1 != g) = true) : FaA (sR S g m v) m xs := fun x hx => by
  obtain ⟨q', h1, h2, h3⟩ := h x hx
  have hne : x.1 ≠ g := by
    have := List.all_eq_true.mp hg x hx
    simpa using this
  exact ⟨q', (u2_nf _ _ hne).trans h1, h2, h3⟩
theorem lt16_le {v : Int32} (h : v < 16) : v ≤ 15 := by
  have := Int32.lt_iff_toInt_lt.mp h
  have e1 : (16 : Int32).toInt = 16 := by decide
  have e2 : (15 : Int32).toInt = 15 := by decide
  exact Int32.le_iff_toInt_le.mpr (by omega)
theorem le15_lt {v : Int32} (h : v ≤ 15) : v < 16 := by
  have := Int32.le_iff_toInt_le.mp h
  have e1 : (16 : Int32).toInt = 16 := by decide
  have e2 : (15 : Int32).toInt = 15 := by decide
  exact Int32.lt_iff_toInt_lt.mpr (by omega)
theorem vp_lt16 {v : Int32} {n : Nat} (h : vp_in v n) : v.toNatClampNeg < n := Nat.not_le.mp fun q => h (Or.inr q)
theorem pos_of {v : Int32} (h : (1 : Int32) ≤ v) : (0 : Int32) < v := by
  have := Int32.le_iff_toInt_le.mp h
  have e1 : (1 : Int32).toInt = 1 := by decide
  have e2 : (0 : Int32).toInt = 0 := by decide
  exact Int32.lt_iff_toInt_lt.mpr (by omega)
theorem wi_nat {v : Int32} (h : wi v 1 60) : ∃ N : Nat, N ≤ 60 ∧ v = nI N := by
  have h1 := Int32.le_iff_toInt_le.mp h.1
  have h2 := Int32.le_iff_toInt_le.mp h.2
  have e1 : (1 : Int32).toInt = 1 := by decide
  have e2 : (60 : Int32).toInt = 60 := by decide
  refine ⟨v.toInt.toNat, by omega, Int32.toInt_inj.mp ?_⟩
  rw [nI_toInt (by omega)]; omega
theorem vp_lot {v : Int32} {i : Nat} (e : v = 0 + nI i) (h : i < 600) : vp_in v 600 := by
  rw [e, Int32.zero_add]; exact vp_in_nI h (by omega)
theorem wi_nat8 {v : Int32} (h : wi v 0 8) : ∃ N : Nat, N ≤ 8 ∧ v = nI N := by
  have h1 := Int32.le_iff_toInt_le.mp h.1
  have h2 := Int32.le_iff_toInt_le.mp h.2
  have e1 : (0 : Int32).toInt = 0 := by decide
  have e2 : (8 : Int32).toInt = 8 := by decide
  refine ⟨v.toInt.toNat, by omega, Int32.toInt_inj.mp ?_⟩
  rw [nI_toInt (by omega)]; omega
theorem wi_nat15 {v : Int32} (h : wi v 0 15) : ∃ N : Nat, N ≤ 15 ∧ v = nI N := by
  have h1 := Int32.le_iff_toInt_le.mp h.1
  have h2 := Int32.le_iff_toInt_le.mp h.2
  have e1 : (0 : Int32).toInt = 0 := by decide
  have e2 : (15 : Int32).toInt = 15 := by decide
  refine ⟨v.toInt.toNat, by omega, Int32.toInt_inj.mp ?_⟩
  rw [nI_toInt (by omega)]; omega
theorem vp_w128 {a v w : Int32} {i : Nat} (h : wi a 0 15) (hi : i < 8) (e : w = v + nI i) (e2 : v = 8 * a) : vp_in w 128 := by
  obtain ⟨n, hn, ea⟩ := wi_nat15 h
  rw [e, e2, ea, show (8 : Int32) = nI 8 from rfl, pk_mul, nI_add]
  exact vp_in_nI (by omega) (by omega)
theorem one_of {k : Int32} (h : wi k 0 2) (h0 : ¬ k = 0) (h2 : ¬ k = 2) : k = 1 := by
  have h1 := Int32.le_iff_toInt_le.mp h.1
  have h3 := Int32.le_iff_toInt_le.mp h.2
  have e0 : (0 : Int32).toInt = 0 := by decide
  have e1 : (1 : Int32).toInt = 1 := by decide
  have e2 : (2 : Int32).toInt = 2 := by decide
  have n0 : k.toInt ≠ 0 := fun q => h0 (Int32.toInt_inj.mp (by rw [q]; rfl))
  have n2 : k.toInt ≠ 2 := fun q => h2 (Int32.toInt_inj.mp (by rw [q]; rfl))
  exact Int32.toInt_inj.mp (by omega)
theorem eq_of_nn {a b : Int32} (h : ¬ a ≠ b) : a = b := Classical.not_not.mp h
theorem FaA_sI {S : PS} {m g a : Nat} {v : Int32} {xs : List (Nat × Nat × Nat)} (h : FaA S m xs) : FaA (sI S g a v) m xs := fun x hx => h x hx
theorem FaA_sA {S : PS} {m a : Nat} {f : Nat → Int32} {xs : List (Nat × Nat × Nat)} (h : FaA S m xs) : FaA (sA S a f) m xs := fun x hx => h x hx
theorem FaA_sB {S : PS} {m a : Nat} {f : Nat → Option Nat} {xs : List (Nat × Nat × Nat)} (h : FaA S m xs) : FaA (sB S a f) m xs := fun x hx => h x hx
end
section
theorem dX8_skeinAt_0 : decode cX8_skeinAt 0 = .ok (.iload_n 1, 1) := by decide +kernel
theorem dX8_skeinAt_1 : decode cX8_skeinAt 1 = .ok (.ifCond .lt 11, 3) := by decide +kernel
theorem dX8_skeinAt_4 : decode cX8_skeinAt 4 = .ok (.iload_n 1, 1) := by decide +kernel
theorem dX8_skeinAt_5 : decode cX8_skeinAt 5 = .ok (.aload_n 0, 1) := by decide +kernel
theorem dX8_skeinAt_6 : decode cX8_skeinAt 6 = .ok (.getfield 37, 3) := by decide +kernel
theorem dX8_skeinAt_9 : decode cX8_skeinAt 9 = .ok (.if_icmp .lt 7, 3) := by decide +kernel
theorem dX8_skeinAt_12 : decode cX8_skeinAt 12 = .ok (.aconst_null, 1) := by decide +kernel
theorem dX8_skeinAt_13 : decode cX8_skeinAt 13 = .ok (.goto 9, 3) := by decide +kernel
theorem dX8_skeinAt_22 : decode cX8_skeinAt 22 = .ok (.areturn, 1) := by decide +kernel
set_option maxRecDepth 20000 in
theorem ggX11_cocoon_X11_cocoonAt : GoodIn wsX11_cocoon wsX11_cocoonAt := goodIn_r _ [9, 10, 11, 12, 40, 41, 42, 43, 44, 45, 46, 47, 48, 49, 50, 51] (by decide +kernel) (by decide +kernel)
set_option maxRecDepth 20000 in
theorem gX11_cocoon_X11_cocoonAt : GoodIn wsX11_cocoon (wsV RX11 74 RX11 yX11_cocoonAt wsX11_cocoonAt) := goodIn_app (goodIn_of _ (by decide +kernel)) ggX11_cocoon_X11_cocoonAt
theorem dX11_cocoon_0 : decode cX11_cocoon 0 = .ok (.aload_n 0, 1) := by decide +kernel
theorem dX11_cocoon_1 : decode cX11_cocoon 1 = .ok (.iload_n 1, 1) := by decide +kernel
theorem dX11_cocoon_2 : decode cX11_cocoon 2 = .ok (.iload_n 2, 1) := by decide +kernel
theorem dX11_cocoon_3 : decode cX11_cocoon 3 = .ok (.invokevirtual 74, 3) := by decide +kernel
theorem dX11_cocoon_6 : decode cX11_cocoon 6 = .ok (.astore 4, 2) := by decide +kernel
theorem dX11_cocoon_8 : decode cX11_cocoon 8 = .ok (.aload 4, 2) := by decide +kernel
theorem dX11_cocoon_10 : decode cX11_cocoon 10 = .ok (.ifnonnull 5, 3) := by decide +kernel
theorem dX11_cocoon_13 : decode cX11_cocoon 13 = .ok (.iconst (-1), 1) := by decide +kernel
theorem dX11_cocoon_14 : decode cX11_cocoon 14 = .ok (.ireturn, 1) := by decide +kernel
theorem dX11_test_0 : decode cX11_test 0 = .ok (.iload_n 1, 1) := by decide +kernel
theorem dX11_test_1 : decode cX11_test 1 = .ok (.ifCond .lt 15, 3) := by decide +kernel
theorem dX11_test_4 : decode cX11_test 4 = .ok (.iload_n 1, 1) := by decide +kernel
theorem dX11_test_5 : decode cX11_test 5 = .ok (.aload_n 0, 1) := by decide +kernel
theorem dX11_test_6 : decode cX11_test 6 = .ok (.getfield 63, 3) := by decide +kernel
theorem dX11_test_9 : decode cX11_test 9 = .ok (.if_icmp .ge 7, 3) := by decide +kernel
theorem dX11_test_16 : decode cX11_test 16 = .ok (.iconst (-1), 1) := by decide +kernel
theorem dX11_test_17 : decode cX11_test 17 = .ok (.ireturn, 1) := by decide +kernel
set_option maxRecDepth 20000 in
theorem ggX11_target_X11_potAt : GoodIn wsX11_target wsX11_potAt := goodIn_r _ [6, 7, 8, 27, 28, 29, 30, 31, 32, 33, 34, 35, 36, 37, 38] (by decide +kernel) (by decide +kernel)
set_option maxRecDepth 20000 in
theorem gX11_target_X11_potAt : GoodIn wsX11_target (wsV RX11 134 RX11 yX11_potAt wsX11_potAt) := goodIn_app (goodIn_of _ (by decide +kernel)) ggX11_target_X11_potAt
theorem dX11_target_0 : decode cX11_target 0 = .ok (.aload_n 0, 1) := by decide +kernel
theorem dX11_target_1 : decode cX11_target 1 = .ok (.iload_n 1, 1) := by decide +kernel
theorem dX11_target_2 : decode cX11_target 2 = .ok (.invokevirtual 134, 3) := by decide +kernel
theorem dX11_target_5 : decode cX11_target 5 = .ok (.astore_n 3, 1) := by decide +kernel
theorem dX11_target_6 : decode cX11_target 6 = .ok (.aload_n 3, 1) := by decide +kernel
theorem dX11_target_7 : decode cX11_target 7 = .ok (.ifnull 10, 3) := by decide +kernel
theorem dX11_target_17 : decode cX11_target 17 = .ok (.iconst 0, 1) := by decide +kernel
theorem dX11_target_18 : decode cX11_target 18 = .ok (.ireturn, 1) := by decide +kernel
set_option maxRecDepth 20000 in
theorem ggX11_fill_X11_potAt : GoodIn wsX11_fill wsX11_potAt := goodIn_r _ [6, 7, 8, 50, 51, 52, 53, 54, 55, 56, 57, 58, 59, 60, 61] (by decide +kernel) (by decide +kernel)
set_option maxRecDepth 20000 in
theorem gX11_fill_X11_potAt : GoodIn wsX11_fill (wsV RX11 134 RX11 yX11_potAt wsX11_potAt) := goodIn_app (goodIn_of _ (by decide +kernel)) ggX11_fill_X11_potAt
theorem dX11_fill_0 : decode cX11_fill 0 = .ok (.aload_n 0, 1) := by decide +kernel
theorem dX11_fill_1 : decode cX11_fill 1 = .ok (.iload_n 1, 1) := by decide +kernel
theorem dX11_fill_2 : decode cX11_fill 2 = .ok (.invokevirtual 134, 3) := by decide +kernel
theorem dX11_fill_5 : decode cX11_fill 5 = .ok (.astore 5, 2) := by decide +kernel
theorem dX11_fill_7 : decode cX11_fill 7 = .ok (.aload 5, 2) := by decide +kernel
theorem dX11_fill_9 : decode cX11_fill 9 = .ok (.ifnull 24, 3) := by decide +kernel
theorem dX11_fill_33 : decode cX11_fill 33 = .ok (.iconst 0, 1) := by decide +kernel
theorem dX11_fill_34 : decode cX11_fill 34 = .ok (.ireturn, 1) := by decide +kernel
theorem dX11_place_0 : decode cX11_place 0 = .ok (.aload_n 0, 1) := by decide +kernel
theorem dX11_place_1 : decode cX11_place 1 = .ok (.getfield 28, 3) := by decide +kernel
theorem dX11_place_4 : decode cX11_place 4 = .ok (.getfield 166, 3) := by decide +kernel
theorem dX11_place_7 : decode cX11_place 7 = .ok (.ireturn, 1) := by decide +kernel
set_option maxRecDepth 20000 in
theorem ggX11_run_X11_potAt : GoodIn wsX11_run wsX11_potAt := goodIn_r _ [6, 7, 8, 267, 268, 269, 270, 271, 272, 273, 274, 275, 276, 277, 278] (by decide +kernel) (by decide +kernel)
set_option maxRecDepth 20000 in
theorem gX11_run_X11_potAt : GoodIn wsX11_run (wsV RX11 134 RX11 yX11_potAt wsX11_potAt) := goodIn_app (goodIn_of _ (by decide +kernel)) ggX11_run_X11_potAt
theorem dX11_run_0 : decode cX11_run 0 = .ok (.aload_n 0, 1) := by decide +kernel
theorem dX11_run_1 : decode cX11_run 1 = .ok (.iload_n 1, 1) := by decide +kernel
theorem dX11_run_2 : decode cX11_run 2 = .ok (.invokevirtual 134, 3) := by decide +kernel
theorem dX11_run_5 : decode cX11_run 5 = .ok (.astore_n 3, 1) := by decide +kernel
theorem dX11_run_6 : decode cX11_run 6 = .ok (.aload_n 3, 1) := by decide +kernel
theorem dX11_run_7 : decode cX11_run 7 = .ok (.ifnull 14, 3) := by decide +kernel
theorem dX11_run_21 : decode cX11_run 21 = .ok (.iconst (-1), 1) := by decide +kernel
theorem dX11_run_22 : decode cX11_run 22 = .ok (.ireturn, 1) := by decide +kernel
set_option maxRecDepth 20000 in
theorem ggX11_about_X11_potAt : GoodIn wsX11_about wsX11_potAt := goodIn_r _ [18, 19, 20, 76, 77, 78, 79, 80, 81, 82, 83, 84, 85, 86, 87] (by decide +kernel) (by decide +kernel)
set_option maxRecDepth 20000 in
theorem gX11_about_X11_potAt : GoodIn wsX11_about (wsV RX11 134 RX11 yX11_potAt wsX11_potAt) := goodIn_app (goodIn_of _ (by decide +kernel)) ggX11_about_X11_potAt
theorem dX11_about_0 : decode cX11_about 0 = .ok (.aload_n 0, 1) := by decide +kernel
theorem dX11_about_1 : decode cX11_about 1 = .ok (.iload_n 1, 1) := by decide +kernel
theorem dX11_about_2 : decode cX11_about 2 = .ok (.invokevirtual 134, 3) := by decide +kernel
theorem dX11_about_5 : decode cX11_about 5 = .ok (.astore_n 3, 1) := by decide +kernel
theorem dX11_about_6 : decode cX11_about 6 = .ok (.aload_n 3, 1) := by decide +kernel
theorem dX11_about_7 : decode cX11_about 7 = .ok (.ifnonnull 5, 3) := by decide +kernel
theorem dX11_about_10 : decode cX11_about 10 = .ok (.iconst (-1), 1) := by decide +kernel
theorem dX11_about_11 : decode cX11_about 11 = .ok (.ireturn, 1) := by decide +kernel
set_option maxRecDepth 20000 in
theorem ggX11_cut_X11_potAt : GoodIn wsX11_cut wsX11_potAt := goodIn_r _ [6, 7, 8, 95, 96, 97, 98, 99, 100, 101, 102, 103, 104, 105, 106] (by decide +kernel) (by decide +kernel)
set_option maxRecDepth 20000 in
theorem gX11_cut_X11_potAt : GoodIn wsX11_cut (wsV RX11 134 RX11 yX11_potAt wsX11_potAt) := goodIn_app (goodIn_of _ (by decide +kernel)) ggX11_cut_X11_potAt
theorem dX11_cut_0 : decode cX11_cut 0 = .ok (.aload_n 0, 1) := by decide +kernel
theorem dX11_cut_1 : decode cX11_cut 1 = .ok (.iload_n 1, 1) := by decide +kernel
theorem dX11_cut_2 : decode cX11_cut 2 = .ok (.invokevirtual 134, 3) := by decide +kernel
theorem dX11_cut_5 : decode cX11_cut 5 = .ok (.astore_n 2, 1) := by decide +kernel
theorem dX11_cut_6 : decode cX11_cut 6 = .ok (.aload_n 2, 1) := by decide +kernel
theorem dX11_cut_7 : decode cX11_cut 7 = .ok (.ifnonnull 7, 3) := by decide +kernel
theorem dX11_cut_10 : decode cX11_cut 10 = .ok (.iconst (-1), 1) := by decide +kernel
theorem dX11_cut_11 : decode cX11_cut 11 = .ok (.goto 11, 3) := by decide +kernel
theorem dX11_cut_22 : decode cX11_cut 22 = .ok (.ireturn, 1) := by decide +kernel
set_option maxRecDepth 20000 in
theorem ggX11_skein_X8_skeinAt : GoodIn wsX11_skein wsX8_skeinAt := goodIn_r _ [18, 19, 20, 63, 64, 65, 66, 67, 68, 69, 70, 71, 72, 73, 74, 75] (by decide +kernel) (by decide +kernel)
set_option maxRecDepth 20000 in
theorem gX11_skein_X8_skeinAt : GoodIn wsX11_skein (wsV RX11 231 RX8 yX8_skeinAt wsX8_skeinAt) := goodIn_app (goodIn_of _ (by decide +kernel)) ggX11_skein_X8_skeinAt
theorem dX11_skein_0 : decode cX11_skein 0 = .ok (.aload_n 0, 1) := by decide +kernel
theorem dX11_skein_1 : decode cX11_skein 1 = .ok (.getfield 42, 3) := by decide +kernel
theorem dX11_skein_4 : decode cX11_skein 4 = .ok (.iload_n 1, 1) := by decide +kernel
theorem dX11_skein_5 : decode cX11_skein 5 = .ok (.invokevirtual 231, 3) := by decide +kernel
theorem dX11_skein_8 : decode cX11_skein 8 = .ok (.astore_n 3, 1) := by decide +kernel
theorem dX11_skein_9 : decode cX11_skein 9 = .ok (.aload_n 3, 1) := by decide +kernel
theorem dX11_skein_10 : decode cX11_skein 10 = .ok (.ifnonnull 5, 3) := by decide +kernel
theorem dX11_skein_13 : decode cX11_skein 13 = .ok (.iconst (-1), 1) := by decide +kernel
theorem dX11_skein_14 : decode cX11_skein 14 = .ok (.ireturn, 1) := by decide +kernel
set_option maxRecDepth 20000 in
theorem ggX11_metre_X8_skeinAt : GoodIn wsX11_metre wsX8_skeinAt := goodIn_r _ [10, 11, 12, 44, 45, 46, 47, 48, 49, 50, 51, 52, 53, 54, 55, 56] (by decide +kernel) (by decide +kernel)
set_option maxRecDepth 20000 in
theorem gX11_metre_X8_skeinAt : GoodIn wsX11_metre (wsV RX11 231 RX8 yX8_skeinAt wsX8_skeinAt) := goodIn_app (goodIn_of _ (by decide +kernel)) ggX11_metre_X8_skeinAt
theorem dX11_metre_0 : decode cX11_metre 0 = .ok (.aload_n 0, 1) := by decide +kernel
theorem dX11_metre_1 : decode cX11_metre 1 = .ok (.getfield 42, 3) := by decide +kernel
theorem dX11_metre_4 : decode cX11_metre 4 = .ok (.iload_n 1, 1) := by decide +kernel
theorem dX11_metre_5 : decode cX11_metre 5 = .ok (.invokevirtual 231, 3) := by decide +kernel
theorem dX11_metre_8 : decode cX11_metre 8 = .ok (.astore 4, 2) := by decide +kernel
theorem dX11_metre_10 : decode cX11_metre 10 = .ok (.aload 4, 2) := by decide +kernel
theorem dX11_metre_12 : decode cX11_metre 12 = .ok (.ifnull 19, 3) := by decide +kernel
theorem dX11_metre_31 : decode cX11_metre 31 = .ok (.iconst (-1), 1) := by decide +kernel
theorem dX11_metre_32 : decode cX11_metre 32 = .ok (.ireturn, 1) := by decide +kernel
set_option maxRecDepth 20000 in
theorem ggX11_piece_X8_skeinAt : GoodIn wsX11_piece wsX8_skeinAt := goodIn_r _ [12, 13, 14, 46, 47, 48, 49, 50, 51, 52, 53, 54, 55, 56, 57, 58] (by decide +kernel) (by decide +kernel)
set_option maxRecDepth 20000 in
theorem gX11_piece_X8_skeinAt : GoodIn wsX11_piece (wsV RX11 231 RX8 yX8_skeinAt wsX8_skeinAt) := goodIn_app (goodIn_of _ (by decide +kernel)) ggX11_piece_X8_skeinAt
theorem dX11_piece_0 : decode cX11_piece 0 = .ok (.aload_n 0, 1) := by decide +kernel
theorem dX11_piece_1 : decode cX11_piece 1 = .ok (.getfield 42, 3) := by decide +kernel
theorem dX11_piece_4 : decode cX11_piece 4 = .ok (.iload_n 1, 1) := by decide +kernel
theorem dX11_piece_5 : decode cX11_piece 5 = .ok (.invokevirtual 231, 3) := by decide +kernel
theorem dX11_piece_8 : decode cX11_piece 8 = .ok (.astore 4, 2) := by decide +kernel
theorem dX11_piece_10 : decode cX11_piece 10 = .ok (.aload 4, 2) := by decide +kernel
theorem dX11_piece_12 : decode cX11_piece 12 = .ok (.ifnull 19, 3) := by decide +kernel
theorem dX11_piece_31 : decode cX11_piece 31 = .ok (.iconst (-1), 1) := by decide +kernel
theorem dX11_piece_32 : decode cX11_piece 32 = .ok (.ireturn, 1) := by decide +kernel
set_option maxRecDepth 20000 in
theorem ggX11_grade_X8_skeinAt : GoodIn wsX11_grade wsX8_skeinAt := goodIn_r _ [10, 11, 12, 90, 91, 92, 93, 94, 95, 96, 97, 98, 99, 100, 101, 102] (by decide +kernel) (by decide +kernel)
set_option maxRecDepth 20000 in
theorem gX11_grade_X8_skeinAt : GoodIn wsX11_grade (wsV RX11 231 RX8 yX8_skeinAt wsX8_skeinAt) := goodIn_app (goodIn_of _ (by decide +kernel)) ggX11_grade_X8_skeinAt
theorem dX11_grade_0 : decode cX11_grade 0 = .ok (.aload_n 0, 1) := by decide +kernel
theorem dX11_grade_1 : decode cX11_grade 1 = .ok (.getfield 42, 3) := by decide +kernel
theorem dX11_grade_4 : decode cX11_grade 4 = .ok (.iload_n 1, 1) := by decide +kernel
theorem dX11_grade_5 : decode cX11_grade 5 = .ok (.invokevirtual 231, 3) := by decide +kernel
theorem dX11_grade_8 : decode cX11_grade 8 = .ok (.astore 4, 2) := by decide +kernel
theorem dX11_grade_10 : decode cX11_grade 10 = .ok (.aload 4, 2) := by decide +kernel
theorem dX11_grade_12 : decode cX11_grade 12 = .ok (.ifnull 24, 3) := by decide +kernel
theorem dX11_grade_36 : decode cX11_grade 36 = .ok (.iconst (-1), 1) := by decide +kernel
theorem dX11_grade_37 : decode cX11_grade 37 = .ok (.ireturn, 1) := by decide +kernel
theorem dX11_drawn_0 : decode cX11_drawn 0 = .ok (.aload_n 0, 1) := by decide +kernel
theorem dX11_drawn_1 : decode cX11_drawn 1 = .ok (.getfield 49, 3) := by decide +kernel
theorem dX11_drawn_4 : decode cX11_drawn 4 = .ok (.getfield 294, 3) := by decide +kernel
theorem dX11_drawn_7 : decode cX11_drawn 7 = .ok (.ifCond .eq 7, 3) := by decide +kernel
theorem dX11_drawn_14 : decode cX11_drawn 14 = .ok (.iconst (-1), 1) := by decide +kernel
theorem dX11_drawn_15 : decode cX11_drawn 15 = .ok (.ireturn, 1) := by decide +kernel
set_option maxRecDepth 20000 in
theorem ggX11_mixed_X8_skeinAt : GoodIn wsX11_mixed wsX8_skeinAt := goodIn_r _ [7, 8, 9, 32, 33, 34, 35, 36, 37, 38, 39, 40, 41, 42, 43, 44] (by decide +kernel) (by decide +kernel)
set_option maxRecDepth 20000 in
theorem gX11_mixed_X8_skeinAt : GoodIn wsX11_mixed (wsV RX11 231 RX8 yX8_skeinAt wsX8_skeinAt) := goodIn_app (goodIn_of _ (by decide +kernel)) ggX11_mixed_X8_skeinAt
theorem dX11_mixed_0 : decode cX11_mixed 0 = .ok (.aload_n 0, 1) := by decide +kernel
theorem dX11_mixed_1 : decode cX11_mixed 1 = .ok (.getfield 42, 3) := by decide +kernel
theorem dX11_mixed_4 : decode cX11_mixed 4 = .ok (.iload_n 1, 1) := by decide +kernel
theorem dX11_mixed_5 : decode cX11_mixed 5 = .ok (.invokevirtual 231, 3) := by decide +kernel
theorem dX11_mixed_8 : decode cX11_mixed 8 = .ok (.astore_n 2, 1) := by decide +kernel
theorem dX11_mixed_9 : decode cX11_mixed 9 = .ok (.aload_n 2, 1) := by decide +kernel
theorem dX11_mixed_10 : decode cX11_mixed 10 = .ok (.ifnull 14, 3) := by decide +kernel
theorem dX11_mixed_24 : decode cX11_mixed 24 = .ok (.iconst 0, 1) := by decide +kernel
theorem dX11_mixed_25 : decode cX11_mixed 25 = .ok (.ireturn, 1) := by decide +kernel
theorem dX11_day_0 : decode cX11_day 0 = .ok (.aload_n 0, 1) := by decide +kernel
theorem dX11_day_1 : decode cX11_day 1 = .ok (.getfield 42, 3) := by decide +kernel
theorem dX11_day_4 : decode cX11_day 4 = .ok (.dup, 1) := by decide +kernel
theorem dX11_day_5 : decode cX11_day 5 = .ok (.getfield 349, 3) := by decide +kernel
theorem dX11_day_8 : decode cX11_day 8 = .ok (.iconst 1, 1) := by decide +kernel
theorem dX11_day_9 : decode cX11_day 9 = .ok (.iadd, 1) := by decide +kernel
theorem dX11_day_10 : decode cX11_day 10 = .ok (.putfield 349, 3) := by decide +kernel
theorem dX11_day_13 : decode cX11_day 13 = .ok (.aload_n 0, 1) := by decide +kernel
theorem dX11_day_14 : decode cX11_day 14 = .ok (.getfield 42, 3) := by decide +kernel
theorem dX11_day_17 : decode cX11_day 17 = .ok (.getfield 349, 3) := by decide +kernel
theorem dX11_day_20 : decode cX11_day 20 = .ok (.ireturn, 1) := by decide +kernel
set_option maxRecDepth 20000 in
theorem ggX11_fault_X8_skeinAt : GoodIn wsX11_fault wsX8_skeinAt := goodIn_r _ [6, 7, 8, 34, 35, 36, 37, 38, 39, 40, 41, 42, 43, 44, 45, 46] (by decide +kernel) (by decide +kernel)
set_option maxRecDepth 20000 in
theorem gX11_fault_X8_skeinAt : GoodIn wsX11_fault (wsV RX11 231 RX8 yX8_skeinAt wsX8_skeinAt) := goodIn_app (goodIn_of _ (by decide +kernel)) ggX11_fault_X8_skeinAt
theorem dX11_fault_0 : decode cX11_fault 0 = .ok (.aload_n 0, 1) := by decide +kernel
theorem dX11_fault_1 : decode cX11_fault 1 = .ok (.getfield 42, 3) := by decide +kernel
theorem dX11_fault_4 : decode cX11_fault 4 = .ok (.iload_n 1, 1) := by decide +kernel
theorem dX11_fault_5 : decode cX11_fault 5 = .ok (.invokevirtual 231, 3) := by decide +kernel
theorem dX11_fault_8 : decode cX11_fault 8 = .ok (.ifnull 30, 3) := by decide +kernel
theorem dX11_fault_38 : decode cX11_fault 38 = .ok (.iconst 0, 1) := by decide +kernel
theorem dX11_fault_39 : decode cX11_fault 39 = .ok (.ireturn, 1) := by decide +kernel
set_option maxRecDepth 20000 in
theorem ggX11_pay_X11_potAt : GoodIn wsX11_pay wsX11_potAt := goodIn_r _ [7, 8, 9, 43, 44, 45, 46, 47, 48, 49, 50, 51, 52, 53, 54] (by decide +kernel) (by decide +kernel)
set_option maxRecDepth 20000 in
theorem gX11_pay_X11_potAt : GoodIn wsX11_pay (wsV RX11 134 RX11 yX11_potAt wsX11_potAt) := goodIn_app (goodIn_of _ (by decide +kernel)) ggX11_pay_X11_potAt
theorem dX11_pay_0 : decode cX11_pay 0 = .ok (.aload_n 0, 1) := by decide +kernel
theorem dX11_pay_1 : decode cX11_pay 1 = .ok (.iload_n 1, 1) := by decide +kernel
theorem dX11_pay_2 : decode cX11_pay 2 = .ok (.invokevirtual 134, 3) := by decide +kernel
theorem dX11_pay_5 : decode cX11_pay 5 = .ok (.ifnull 33, 3) := by decide +kernel
theorem dX11_pay_38 : decode cX11_pay 38 = .ok (.iconst 0, 1) := by decide +kernel
theorem dX11_pay_39 : decode cX11_pay 39 = .ok (.ireturn, 1) := by decide +kernel
theorem dX11_isWithin_0 : decode cX11_isWithin 0 = .ok (.iload_n 0, 1) := by decide +kernel
theorem dX11_isWithin_1 : decode cX11_isWithin 1 = .ok (.iload_n 1, 1) := by decide +kernel
theorem dX11_isWithin_2 : decode cX11_isWithin 2 = .ok (.if_icmp .lt 12, 3) := by decide +kernel
theorem dX11_isWithin_5 : decode cX11_isWithin 5 = .ok (.iload_n 0, 1) := by decide +kernel
theorem dX11_isWithin_6 : decode cX11_isWithin 6 = .ok (.iload_n 2, 1) := by decide +kernel
theorem dX11_isWithin_7 : decode cX11_isWithin 7 = .ok (.if_icmp .gt 7, 3) := by decide +kernel
theorem dX11_isWithin_10 : decode cX11_isWithin 10 = .ok (.iconst 1, 1) := by decide +kernel
theorem dX11_isWithin_11 : decode cX11_isWithin 11 = .ok (.goto 4, 3) := by decide +kernel
theorem dX11_isWithin_14 : decode cX11_isWithin 14 = .ok (.iconst 0, 1) := by decide +kernel
theorem dX11_isWithin_15 : decode cX11_isWithin 15 = .ok (.ireturn, 1) := by decide +kernel
set_option maxRecDepth 20000 in
theorem ggX11_isTarget_X11_isWithin : GoodIn wsX11_isTarget wsX11_isWithin := goodIn_r _ [4] (by decide +kernel) (by decide +kernel)
set_option maxRecDepth 20000 in
theorem gX11_isTarget_X11_isWithin : GoodIn wsX11_isTarget (va_wsS RX11 67 yX11_isWithin wsX11_isWithin) := goodIn_app (goodIn_of _ (by decide +kernel)) ggX11_isTarget_X11_isWithin
theorem dX11_isTarget_0 : decode cX11_isTarget 0 = .ok (.iload_n 0, 1) := by decide +kernel
theorem dX11_isTarget_1 : decode cX11_isTarget 1 = .ok (.bipush 10, 2) := by decide +kernel
theorem dX11_isTarget_3 : decode cX11_isTarget 3 = .ok (.sipush 2000, 3) := by decide +kernel
theorem dX11_isTarget_6 : decode cX11_isTarget 6 = .ok (.invokestatic 67, 3) := by decide +kernel
theorem dX11_isTarget_9 : decode cX11_isTarget 9 = .ok (.ireturn, 1) := by decide +kernel
theorem dX11_cocoonAt_0 : decode cX11_cocoonAt 0 = .ok (.iload_n 1, 1) := by decide +kernel
theorem dX11_cocoonAt_1 : decode cX11_cocoonAt 1 = .ok (.ifCond .lt 25, 3) := by decide +kernel
theorem dX11_cocoonAt_4 : decode cX11_cocoonAt 4 = .ok (.iload_n 1, 1) := by decide +kernel
theorem dX11_cocoonAt_5 : decode cX11_cocoonAt 5 = .ok (.aload_n 0, 1) := by decide +kernel
theorem dX11_cocoonAt_6 : decode cX11_cocoonAt 6 = .ok (.getfield 63, 3) := by decide +kernel
theorem dX11_cocoonAt_9 : decode cX11_cocoonAt 9 = .ok (.if_icmp .ge 17, 3) := by decide +kernel
theorem dX11_cocoonAt_26 : decode cX11_cocoonAt 26 = .ok (.aconst_null, 1) := by decide +kernel
theorem dX11_cocoonAt_27 : decode cX11_cocoonAt 27 = .ok (.areturn, 1) := by decide +kernel
theorem dX11_potAt_0 : decode cX11_potAt 0 = .ok (.iload_n 1, 1) := by decide +kernel
theorem dX11_potAt_1 : decode cX11_potAt 1 = .ok (.ifCond .lt 11, 3) := by decide +kernel
theorem dX11_potAt_4 : decode cX11_potAt 4 = .ok (.iload_n 1, 1) := by decide +kernel
theorem dX11_potAt_5 : decode cX11_potAt 5 = .ok (.aload_n 0, 1) := by decide +kernel
theorem dX11_potAt_6 : decode cX11_potAt 6 = .ok (.getfield 124, 3) := by decide +kernel
theorem dX11_potAt_9 : decode cX11_potAt 9 = .ok (.if_icmp .lt 7, 3) := by decide +kernel
theorem dX11_potAt_12 : decode cX11_potAt 12 = .ok (.aconst_null, 1) := by decide +kernel
theorem dX11_potAt_13 : decode cX11_potAt 13 = .ok (.goto 9, 3) := by decide +kernel
theorem dX11_potAt_22 : decode cX11_potAt 22 = .ok (.areturn, 1) := by decide +kernel
theorem dX12_within_0 : decode cX12_within 0 = .ok (.iload_n 0, 1) := by decide +kernel
theorem dX12_within_1 : decode cX12_within 1 = .ok (.iload_n 1, 1) := by decide +kernel
theorem dX12_within_2 : decode cX12_within 2 = .ok (.if_icmp .lt 12, 3) := by decide +kernel
theorem dX12_within_5 : decode cX12_within 5 = .ok (.iload_n 0, 1) := by decide +kernel
theorem dX12_within_6 : decode cX12_within 6 = .ok (.iload_n 2, 1) := by decide +kernel
theorem dX12_within_7 : decode cX12_within 7 = .ok (.if_icmp .gt 7, 3) := by decide +kernel
theorem dX12_within_10 : decode cX12_within 10 = .ok (.iconst 1, 1) := by decide +kernel
theorem dX12_within_11 : decode cX12_within 11 = .ok (.goto 4, 3) := by decide +kernel
theorem dX12_within_14 : decode cX12_within 14 = .ok (.iconst 0, 1) := by decide +kernel
theorem dX12_within_15 : decode cX12_within 15 = .ok (.ireturn, 1) := by decide +kernel
theorem inn_X11_cocoonAt_11 : ∀ w ∈ u_ws RX11 TX11 12, w ∈ wsX11_cocoonAt := fun w h => List.mem_cons_of_mem _ (List.mem_append_right _ h)
theorem inn_X11_day_11 : ∀ w ∈ u_ws RX11 TX11 12, w ∈ wsX11_day := fun w h => List.mem_cons_of_mem _ (List.mem_append_left _ (List.mem_append_right _ h))
theorem inn_X11_day_8 : ∀ w ∈ u_ws RX8 TX8 13, w ∈ wsX11_day := fun w h => List.mem_cons_of_mem _ (List.mem_append_right _ h)
theorem inn_X11_drawn_1 : ∀ w ∈ u_ws RX1 TX1 4, w ∈ wsX11_drawn := fun w h => List.mem_cons_of_mem _ (List.mem_append_right _ h)
theorem inn_X11_drawn_11 : ∀ w ∈ u_ws RX11 TX11 12, w ∈ wsX11_drawn := fun w h => List.mem_cons_of_mem _ (List.mem_append_left _ (List.mem_append_right _ h))
theorem inn_X11_fault_11 : ∀ w ∈ u_ws RX11 TX11 12, w ∈ wsX11_fault := fun w h => List.mem_cons_of_mem _ (List.mem_append_left _ (List.mem_append_right _ h))
theorem inn_X11_grade_11 : ∀ w ∈ u_ws RX11 TX11 12, w ∈ wsX11_grade := fun w h => List.mem_cons_of_mem _ (List.mem_append_left _ (List.mem_append_left _ (List.mem_append_left _ (List.mem_append_left _ (List.mem_append_right _ h)))))
theorem inn_X11_metre_11 : ∀ w ∈ u_ws RX11 TX11 12, w ∈ wsX11_metre := fun w h => List.mem_cons_of_mem _ (List.mem_append_left _ (List.mem_append_left _ (List.mem_append_left _ (List.mem_append_right _ h))))
theorem inn_X11_mixed_11 : ∀ w ∈ u_ws RX11 TX11 12, w ∈ wsX11_mixed := fun w h => List.mem_cons_of_mem _ (List.mem_append_left _ (List.mem_append_left _ (List.mem_append_right _ h)))
theorem inn_X11_piece_11 : ∀ w ∈ u_ws RX11 TX11 12, w ∈ wsX11_piece := fun w h => List.mem_cons_of_mem _ (List.mem_append_left _ (List.mem_append_left _ (List.mem_append_left _ (List.mem_append_right _ h))))
theorem inn_X11_place_10 : ∀ w ∈ u_ws RX10 TX10 7, w ∈ wsX11_place := fun w h => List.mem_cons_of_mem _ (List.mem_append_right _ h)
theorem inn_X11_place_11 : ∀ w ∈ u_ws RX11 TX11 12, w ∈ wsX11_place := fun w h => List.mem_cons_of_mem _ (List.mem_append_left _ (List.mem_append_right _ h))
theorem inn_X11_potAt_11 : ∀ w ∈ u_ws RX11 TX11 12, w ∈ wsX11_potAt := fun w h => List.mem_cons_of_mem _ (List.mem_append_right _ h)
theorem inn_X11_skein_11 : ∀ w ∈ u_ws RX11 TX11 12, w ∈ wsX11_skein := fun w h => List.mem_cons_of_mem _ (List.mem_append_left _ (List.mem_append_left _ (List.mem_append_left _ (List.mem_append_right _ h))))
theorem inn_X11_test_11 : ∀ w ∈ u_ws RX11 TX11 12, w ∈ wsX11_test := fun w h => List.mem_cons_of_mem _ (List.mem_append_left _ (List.mem_append_right _ h))
theorem inn_X8_skeinAt_8 : ∀ w ∈ u_ws RX8 TX8 13, w ∈ wsX8_skeinAt := fun w h => List.mem_cons_of_mem _ (List.mem_append_right _ h)
end
section
set_option maxHeartbeats 4000000 in
set_option maxRecDepth 100000 in
theorem c_X11_isWithin (l : Launch) (G : va_G) (cy : Nat → ClassId) (S : PS) (sz : Nat) (v : Int32) (lo : Int32) (hi : Int32)  : Ci l yX11_isWithin wsX11_isWithin ({ frames := 1, cells := 0, slots := 0, locals := 40 }) G cy S sz [.int (v), .int (lo), .int (hi)] (fun (r : Int32) (S9 : PS) => S = S9 ∧ ((wi v lo hi ∧ r = 1) ∨ (¬ wi v lo hi ∧ r = 0))) := by
  refine ent_m (cc := cX11_isWithin) (maxL := 3) (ret := (some .boolean)) (by decide) rfl (Nat.le_of_ble_eq_true rfl) ?_
  intro p e s m below meth c ls X hr hlocks hin hw hl hsz
  subst hsz
  have X : Cx p c cX11_isWithin 3 s [.int (v), .int (lo), .int (hi)].toArray wsX11_isWithin RX11 m G cy (AS S s.heap.size) := X
  have hl : lv_has ls 3 [(0, .int (v)), (1, .int (lo)), (2, .int (hi))] := hl
  refine lv_iload_n X.1 X.2.1 dX11_isWithin_0 rfl (lv_at hl 0 rfl) ?_
  refine lv_iload_n X.1 X.2.1 dX11_isWithin_1 rfl (lv_at hl 1 rfl) ?_
  refine lv_icmp_lt (tgt := 14) X.1 X.2.1 dX11_isWithin_2 (by decide) (fun c_2 => ?_) (fun c_2 => ?_)
  · have z_2 := trivial
    refine lv_iconst (v := 0) X.1 X.2.1 dX11_isWithin_14 (by decide) ?_
    exact ret_z X hw hr hlocks (Nat.le_of_ble_eq_true rfl) (Nat.le_of_ble_eq_true rfl) (by decide) ⟨rfl, Or.inr ⟨by first | exact wi_f1 ‹_› | exact wi_f2 ‹_›, rfl⟩⟩ dX11_isWithin_15
  · have z_2 := trivial
    refine lv_iload_n X.1 X.2.1 dX11_isWithin_5 rfl (lv_at hl 0 rfl) ?_
    refine lv_iload_n X.1 X.2.1 dX11_isWithin_6 rfl (lv_at hl 2 rfl) ?_
    refine lv_icmp_gt (tgt := 14) X.1 X.2.1 dX11_isWithin_7 (by decide) (fun c_7 => ?_) (fun c_7 => ?_)
    · have z_7 := trivial
      refine lv_iconst (v := 0) X.1 X.2.1 dX11_isWithin_14 (by decide) ?_
      exact ret_z X hw hr hlocks (Nat.le_of_ble_eq_true rfl) (Nat.le_of_ble_eq_true rfl) (by decide) ⟨rfl, Or.inr ⟨by first | exact wi_f1 ‹_› | exact wi_f2 ‹_›, rfl⟩⟩ dX11_isWithin_15
    · have z_7 := trivial
      refine lv_iconst (v := 1) X.1 X.2.1 dX11_isWithin_10 (by decide) ?_
      refine lv_goto (tgt := 15) X.1 X.2.1 dX11_isWithin_11 (by decide) ?_
      exact ret_z X hw hr hlocks (Nat.le_of_ble_eq_true rfl) (Nat.le_of_ble_eq_true rfl) (by decide) ⟨rfl, Or.inl ⟨wi_t c_2 c_7, rfl⟩⟩ dX11_isWithin_15
set_option maxHeartbeats 4000000 in
set_option maxRecDepth 100000 in
theorem c_X12_within (l : Launch) (G : va_G) (cy : Nat → ClassId) (S : PS) (sz : Nat) (v : Int32) (lo : Int32) (hi : Int32)  : Ci l yX12_within wsX12_within ({ frames := 1, cells := 0, slots := 0, locals := 40 }) G cy S sz [.int (v), .int (lo), .int (hi)] (fun (r : Int32) (S9 : PS) => S = S9 ∧ ((wi v lo hi ∧ r = 1) ∨ (¬ wi v lo hi ∧ r = 0))) := by
  refine ent_m (cc := cX12_within) (maxL := 3) (ret := (some .boolean)) (by decide) rfl (Nat.le_of_ble_eq_true rfl) ?_
  intro p e s m below meth c ls X hr hlocks hin hw hl hsz
  subst hsz
  have X : Cx p c cX12_within 3 s [.int (v), .int (lo), .int (hi)].toArray wsX12_within RX12 m G cy (AS S s.heap.size) := X
  have hl : lv_has ls 3 [(0, .int (v)), (1, .int (lo)), (2, .int (hi))] := hl
  refine lv_iload_n X.1 X.2.1 dX12_within_0 rfl (lv_at hl 0 rfl) ?_
  refine lv_iload_n X.1 X.2.1 dX12_within_1 rfl (lv_at hl 1 rfl) ?_
  refine lv_icmp_lt (tgt := 14) X.1 X.2.1 dX12_within_2 (by decide) (fun c_2 => ?_) (fun c_2 => ?_)
  · have z_2 := trivial
    refine lv_iconst (v := 0) X.1 X.2.1 dX12_within_14 (by decide) ?_
    exact ret_z X hw hr hlocks (Nat.le_of_ble_eq_true rfl) (Nat.le_of_ble_eq_true rfl) (by decide) ⟨rfl, Or.inr ⟨by first | exact wi_f1 ‹_› | exact wi_f2 ‹_›, rfl⟩⟩ dX12_within_15
  · have z_2 := trivial
    refine lv_iload_n X.1 X.2.1 dX12_within_5 rfl (lv_at hl 0 rfl) ?_
    refine lv_iload_n X.1 X.2.1 dX12_within_6 rfl (lv_at hl 2 rfl) ?_
    refine lv_icmp_gt (tgt := 14) X.1 X.2.1 dX12_within_7 (by decide) (fun c_7 => ?_) (fun c_7 => ?_)
    · have z_7 := trivial
      refine lv_iconst (v := 0) X.1 X.2.1 dX12_within_14 (by decide) ?_
      exact ret_z X hw hr hlocks (Nat.le_of_ble_eq_true rfl) (Nat.le_of_ble_eq_true rfl) (by decide) ⟨rfl, Or.inr ⟨by first | exact wi_f1 ‹_› | exact wi_f2 ‹_›, rfl⟩⟩ dX12_within_15
    · have z_7 := trivial
      refine lv_iconst (v := 1) X.1 X.2.1 dX12_within_10 (by decide) ?_
      refine lv_goto (tgt := 15) X.1 X.2.1 dX12_within_11 (by decide) ?_
      exact ret_z X hw hr hlocks (Nat.le_of_ble_eq_true rfl) (Nat.le_of_ble_eq_true rfl) (by decide) ⟨rfl, Or.inl ⟨wi_t c_2 c_7, rfl⟩⟩ dX12_within_15
set_option maxHeartbeats 4000000 in
set_option maxRecDepth 100000 in
theorem c_X11_isTarget (l : Launch) (G : va_G) (cy : Nat → ClassId) (S : PS) (sz : Nat) (v : Int32)  : Ci l yX11_isTarget wsX11_isTarget ({ frames := 2, cells := 0, slots := 0, locals := 80 }) G cy S sz [.int (v)] (fun (r : Int32) (S9 : PS) => S = S9 ∧ ((wi v 10 2000 ∧ r = 1) ∨ (¬ wi v 10 2000 ∧ r = 0))) := by
  refine ent_m (cc := cX11_isTarget) (maxL := 1) (ret := (some .boolean)) (by decide) rfl (Nat.le_of_ble_eq_true rfl) ?_
  intro p e s m below meth c ls X hr hlocks hin hw hl hsz
  subst hsz
  have X : Cx p c cX11_isTarget 1 s [.int (v)].toArray wsX11_isTarget RX11 m G cy (AS S s.heap.size) := X
  have hl : lv_has ls 1 [(0, .int (v))] := hl
  refine lv_iload_n X.1 X.2.1 dX11_isTarget_0 rfl (lv_at hl 0 rfl) ?_
  refine lv_bipush (v := 10) X.1 X.2.1 dX11_isTarget_1 (by decide) ?_
  refine lv_sipush (v := 2000) X.1 X.2.1 dX11_isTarget_3 (by decide) ?_
  refine k_i (rm := { frames := 1, cells := 0, slots := 0, locals := 40 }) (av := [.int (v), .int 10, .int 2000]) X hw (va_runS (As := [.int (v), .int 10, .int 2000]) (rest := []) (cfix X) (c_X11_isWithin l G cy S _ (v) (10) (2000)) (cwS 3 X.2.2.2.1 gX11_isTarget_X11_isWithin rfl rfl rfl (by decide +kernel) ⟨Nat.le_of_ble_eq_true rfl, Nat.le_of_ble_eq_true rfl⟩) (pre_S X hw _) rfl rfl hl.1 rfl (lv_room (Nat.le_of_ble_eq_true rfl)) dX11_isTarget_6 ⟨Nat.le_of_ble_eq_true rfl, Nat.le_of_ble_eq_true rfl⟩) 0 0 (Nat.le_of_ble_eq_true rfl) (Nat.le_of_ble_eq_true rfl) (fun rr_6 S2 H locs hp hw hfr hnw => ?_)
  obtain ⟨e2_6, hp⟩ := hp
  subst e2_6
  rcases hp with ⟨b_6, er_6⟩ | ⟨b_6, er_6⟩ <;> subst er_6
  · have z_6 := trivial
    exact ret_z X hw hr hlocks (Nat.le_of_ble_eq_true rfl) (Nat.le_of_ble_eq_true rfl) (by decide) ⟨rfl, Or.inl ⟨b_6, rfl⟩⟩ dX11_isTarget_9
  · have z_6 := trivial
    exact ret_z X hw hr hlocks (Nat.le_of_ble_eq_true rfl) (Nat.le_of_ble_eq_true rfl) (by decide) ⟨rfl, Or.inr ⟨b_6, rfl⟩⟩ dX11_isTarget_9
set_option maxHeartbeats 4000000 in
set_option maxRecDepth 100000 in
theorem c_X11_cocoonAt (l : Launch) (G : va_G) (cy : Nat → ClassId) (S : PS) (sz : Nat) (x : Nat) (a1 : Int32) (a2 : Int32) (hF : FX S x) : Cq l yX11_cocoonAt wsX11_cocoonAt ({ frames := 1, cells := 0, slots := 0, locals := 40 }) G cy S sz [.ref x, .int (a1), .int (a2)] (fun (r : Option Nat) (S9 : PS) => S = S9 ∧ r = none) := by
  refine ent_m (cc := cX11_cocoonAt) (maxL := 3) (ret := (some (.object "SilkMill$Cocoon"))) (by decide) rfl (Nat.le_of_ble_eq_true rfl) ?_
  intro p e s m below meth c ls X hr hlocks hin hw hl hsz
  subst hsz
  have X : Cx p c cX11_cocoonAt 3 s [.ref x, .int (a1), .int (a2)].toArray wsX11_cocoonAt RX11 m G cy (AS S s.heap.size) := X
  have hl : lv_has ls 3 [(0, .ref x), (1, .int (a1)), (2, .int (a2))] := hl
  obtain ⟨hat_x, ci_lots, ci_pots, ci_shv, ⟨cs, rf_cs, hat_cs, ln_cs⟩, ⟨lz, rf_lz, hat_lz, ln_lz⟩, ⟨ps, rf_ps, hat_ps, ln_ps⟩, ⟨tp, rf_tp, hat_tp, ci_tsz, ci_tfp, ⟨tb, rf_tb, hat_tb, ln_tb⟩⟩, ⟨st, rf_st, hat_st, ci_st, ⟨pr, rf_pr, hat_pr, ln_pr⟩, ⟨mx, rf_mx, hat_mx⟩⟩, ⟨dr, rf_dr, hat_dr, ci_dsz⟩, sh, rf_sh, hat_sh, ln_sh, hpl⟩ := hF
  refine lv_iload_n X.1 X.2.1 dX11_cocoonAt_0 rfl (lv_at hl 1 rfl) ?_
  refine lv_if_lt (tgt := 26) X.1 X.2.1 dX11_cocoonAt_1 (by decide) (fun c_1 => ?_) (fun c_1 => ?_)
  · have z_1 := trivial
    refine lv_null X.1 X.2.1 dX11_cocoonAt_26 ?_
    exact ret_q none rfl X hw hr hlocks (Nat.le_of_ble_eq_true rfl) (Nat.le_of_ble_eq_true rfl) ⟨rfl, rfl⟩ dX11_cocoonAt_27
  · have z_1 := trivial
    refine lv_iload_n X.1 X.2.1 dX11_cocoonAt_4 rfl (lv_at hl 1 rfl) ?_
    refine lv_aload_n X.1 X.2.1 dX11_cocoonAt_5 rfl (lv_at hl 0 rfl) ?_
    refine r_get (v := .int 0) X hw hat_x 2 (by decide) rfl inn_X11_cocoonAt_11 (by decide) (X.2.2.2.1 (.fieldLink RX11 63 "SilkMill" "lots" "I") (by decide +kernel)) rfl ((gv_1102 _ _).trans (congrArg (fun z => some (Value.int z)) ci_lots)) dX11_cocoonAt_6 ?_
    refine lv_icmp_ge (tgt := 26) X.1 X.2.1 dX11_cocoonAt_9 (by decide) (fun c_9 => ?_) (fun c_9 => absurd (Int32.not_lt.mp c_1) c_9)
    refine lv_null X.1 X.2.1 dX11_cocoonAt_26 ?_
    exact ret_q none rfl X hw hr hlocks (Nat.le_of_ble_eq_true rfl) (Nat.le_of_ble_eq_true rfl) ⟨rfl, rfl⟩ dX11_cocoonAt_27
set_option maxHeartbeats 4000000 in
set_option maxRecDepth 100000 in
theorem c_X11_potAt (l : Launch) (G : va_G) (cy : Nat → ClassId) (S : PS) (sz : Nat) (x : Nat) (a1 : Int32) (hF : FX S x) : Cq l yX11_potAt wsX11_potAt ({ frames := 1, cells := 0, slots := 0, locals := 40 }) G cy S sz [.ref x, .int (a1)] (fun (r : Option Nat) (S9 : PS) => S = S9 ∧ r = none) := by
  refine ent_m (cc := cX11_potAt) (maxL := 2) (ret := (some (.object "SilkMill$Pot"))) (by decide) rfl (Nat.le_of_ble_eq_true rfl) ?_
  intro p e s m below meth c ls X hr hlocks hin hw hl hsz
  subst hsz
  have X : Cx p c cX11_potAt 2 s [.ref x, .int (a1)].toArray wsX11_potAt RX11 m G cy (AS S s.heap.size) := X
  have hl : lv_has ls 2 [(0, .ref x), (1, .int (a1))] := hl
  obtain ⟨hat_x, ci_lots, ci_pots, ci_shv, ⟨cs, rf_cs, hat_cs, ln_cs⟩, ⟨lz, rf_lz, hat_lz, ln_lz⟩, ⟨ps, rf_ps, hat_ps, ln_ps⟩, ⟨tp, rf_tp, hat_tp, ci_tsz, ci_tfp, ⟨tb, rf_tb, hat_tb, ln_tb⟩⟩, ⟨st, rf_st, hat_st, ci_st, ⟨pr, rf_pr, hat_pr, ln_pr⟩, ⟨mx, rf_mx, hat_mx⟩⟩, ⟨dr, rf_dr, hat_dr, ci_dsz⟩, sh, rf_sh, hat_sh, ln_sh, hpl⟩ := hF
  refine lv_iload_n X.1 X.2.1 dX11_potAt_0 rfl (lv_at hl 1 rfl) ?_
  refine lv_if_lt (tgt := 12) X.1 X.2.1 dX11_potAt_1 (by decide) (fun c_1 => ?_) (fun c_1 => ?_)
  · have z_1 := trivial
    refine lv_null X.1 X.2.1 dX11_potAt_12 ?_
    refine lv_goto (tgt := 22) X.1 X.2.1 dX11_potAt_13 (by decide) ?_
    exact ret_q none rfl X hw hr hlocks (Nat.le_of_ble_eq_true rfl) (Nat.le_of_ble_eq_true rfl) ⟨rfl, rfl⟩ dX11_potAt_22
  · have z_1 := trivial
    refine lv_iload_n X.1 X.2.1 dX11_potAt_4 rfl (lv_at hl 1 rfl) ?_
    refine lv_aload_n X.1 X.2.1 dX11_potAt_5 rfl (lv_at hl 0 rfl) ?_
    refine r_get (v := .int 0) X hw hat_x 4 (by decide) rfl inn_X11_potAt_11 (by decide) (X.2.2.2.1 (.fieldLink RX11 124 "SilkMill" "potsMade" "I") (by decide +kernel)) rfl ((gv_1104 _ _).trans (congrArg (fun z => some (Value.int z)) ci_pots)) dX11_potAt_6 ?_
    refine lv_icmp_lt (tgt := 16) X.1 X.2.1 dX11_potAt_9 (by decide) (fun c_9 => absurd c_9 c_1) (fun c_9 => ?_)
    refine lv_null X.1 X.2.1 dX11_potAt_12 ?_
    refine lv_goto (tgt := 22) X.1 X.2.1 dX11_potAt_13 (by decide) ?_
    exact ret_q none rfl X hw hr hlocks (Nat.le_of_ble_eq_true rfl) (Nat.le_of_ble_eq_true rfl) ⟨rfl, rfl⟩ dX11_potAt_22
set_option maxHeartbeats 4000000 in
set_option maxRecDepth 100000 in
theorem c_X8_skeinAt (l : Launch) (G : va_G) (cy : Nat → ClassId) (S : PS) (sz : Nat) (st : Nat) (a1 : Int32) (hF : StF S st) : Cq l yX8_skeinAt wsX8_skeinAt ({ frames := 1, cells := 0, slots := 0, locals := 40 }) G cy S sz [.ref st, .int (a1)] (fun (r : Option Nat) (S9 : PS) => S = S9 ∧ r = none) := by
  refine ent_m (cc := cX8_skeinAt) (maxL := 2) (ret := (some (.object "SilkMill$Skein"))) (by decide) rfl (Nat.le_of_ble_eq_true rfl) ?_
  intro p e s m below meth c ls X hr hlocks hin hw hl hsz
  subst hsz
  have X : Cx p c cX8_skeinAt 2 s [.ref st, .int (a1)].toArray wsX8_skeinAt RX8 m G cy (AS S s.heap.size) := X
  have hl : lv_has ls 2 [(0, .ref st), (1, .int (a1))] := hl
  obtain ⟨hat_st, ci_st, -⟩ := hF
  have ci_800 := ci_st 800 (by decide)
  refine lv_iload_n X.1 X.2.1 dX8_skeinAt_0 rfl (lv_at hl 1 rfl) ?_
  refine lv_if_lt (tgt := 12) X.1 X.2.1 dX8_skeinAt_1 (by decide) (fun c_1 => ?_) (fun c_1 => ?_)
  · have z_1 := trivial
    refine lv_null X.1 X.2.1 dX8_skeinAt_12 ?_
    refine lv_goto (tgt := 22) X.1 X.2.1 dX8_skeinAt_13 (by decide) ?_
    exact ret_q none rfl X hw hr hlocks (Nat.le_of_ble_eq_true rfl) (Nat.le_of_ble_eq_true rfl) ⟨rfl, rfl⟩ dX8_skeinAt_22
  · have z_1 := trivial
    refine lv_iload_n X.1 X.2.1 dX8_skeinAt_4 rfl (lv_at hl 1 rfl) ?_
    refine lv_aload_n X.1 X.2.1 dX8_skeinAt_5 rfl (lv_at hl 0 rfl) ?_
    refine r_get (v := .int 0) X hw hat_st 0 (by decide) rfl inn_X8_skeinAt_8 (by decide) (X.2.2.2.1 (.fieldLink RX8 37 "SilkMill$Store" "kept" "I") (by decide +kernel)) rfl ((gv_800 _ _).trans (congrArg (fun z => some (Value.int z)) ci_800)) dX8_skeinAt_6 ?_
    refine lv_icmp_lt (tgt := 16) X.1 X.2.1 dX8_skeinAt_9 (by decide) (fun c_9 => absurd c_9 c_1) (fun c_9 => ?_)
    refine lv_null X.1 X.2.1 dX8_skeinAt_12 ?_
    refine lv_goto (tgt := 22) X.1 X.2.1 dX8_skeinAt_13 (by decide) ?_
    exact ret_q none rfl X hw hr hlocks (Nat.le_of_ble_eq_true rfl) (Nat.le_of_ble_eq_true rfl) ⟨rfl, rfl⟩ dX8_skeinAt_22
set_option maxHeartbeats 4000000 in
set_option maxRecDepth 100000 in
theorem c_X11_cocoon (l : Launch) (G : va_G) (cy : Nat → ClassId) (S : PS) (sz : Nat) (x : Nat) (a1 : Int32) (a2 : Int32) (a3 : Int32) (hF : FX S x) : Ci l yX11_cocoon wsX11_cocoon ({ frames := 4, cells := 0, slots := 0, locals := 160 }) G cy S sz [.ref x, .int (a1), .int (a2), .int (a3)] (fun (r : Int32) (S9 : PS) => r = -1) := by
  refine ent_m (cc := cX11_cocoon) (maxL := 5) (ret := (some .int)) (by decide) rfl (Nat.le_of_ble_eq_true rfl) ?_
  intro p e s m below meth c ls X hr hlocks hin hw hl hsz
  subst hsz
  have X : Cx p c cX11_cocoon 5 s [.ref x, .int (a1), .int (a2), .int (a3)].toArray wsX11_cocoon RX11 m G cy (AS S s.heap.size) := X
  have hl : lv_has ls 5 [(0, .ref x), (1, .int (a1)), (2, .int (a2)), (3, .int (a3))] := hl
  have hF0 := hF
  obtain ⟨hat_x, ci_lots, ci_pots, ci_shv, ⟨cs, rf_cs, hat_cs, ln_cs⟩, ⟨lz, rf_lz, hat_lz, ln_lz⟩, ⟨ps, rf_ps, hat_ps, ln_ps⟩, ⟨tp, rf_tp, hat_tp, ci_tsz, ci_tfp, ⟨tb, rf_tb, hat_tb, ln_tb⟩⟩, ⟨st, rf_st, hat_st, ci_st, ⟨pr, rf_pr, hat_pr, ln_pr⟩, ⟨mx, rf_mx, hat_mx⟩⟩, ⟨dr, rf_dr, hat_dr, ci_dsz⟩, sh, rf_sh, hat_sh, ln_sh, hpl⟩ := hF
  have hF := hF0
  refine lv_aload_n X.1 X.2.1 dX11_cocoon_0 rfl (lv_at hl 0 rfl) ?_
  refine lv_iload_n X.1 X.2.1 dX11_cocoon_1 rfl (lv_at hl 1 rfl) ?_
  refine lv_iload_n X.1 X.2.1 dX11_cocoon_2 rfl (lv_at hl 2 rfl) ?_
  refine k_q (rm := { frames := 1, cells := 0, slots := 0, locals := 40 }) (av := [.ref x, .int (a1), .int (a2)]) X hw (va_runV (As := [.int (a1), .int (a2)]) (rest := []) (cfix X) (c_X11_cocoonAt l G cy S _ x (a1) (a2) hF) (cwV 2 X.2.2.2.1 gX11_cocoon_X11_cocoonAt rfl rfl rfl (by decide +kernel) ⟨Nat.le_of_ble_eq_true rfl, Nat.le_of_ble_eq_true rfl⟩) (pre_V X hw _ hat_x (by decide) rfl) rfl rfl hl.1 rfl (lv_room (Nat.le_of_ble_eq_true rfl)) dX11_cocoon_3 ⟨Nat.le_of_ble_eq_true rfl, Nat.le_of_ble_eq_true rfl⟩) 0 0 (Nat.le_of_ble_eq_true rfl) (Nat.le_of_ble_eq_true rfl) (fun rr_3 S2 H locs hp hw hfr hnw => ?_)
  obtain ⟨e2_3, er_3⟩ := hp
  subst e2_3
  subst er_3
  refine W.eq (g2 := F0 m 6 ls (.null :: [])) rfl ?_
  refine lv_astoreN (lv' := [(4, .null), (0, .ref x), (1, .int (a1)), (2, .int (a2)), (3, .int (a3))]) X.1 X.2.1 dX11_cocoon_6 hl (by decide) rfl (fun ls hl => ?_)
  refine lv_aloadN X.1 X.2.1 dX11_cocoon_8 (lv_at hl 0 rfl) ?_
  refine lv_ifnonnullN X.1 X.2.1 dX11_cocoon_10 ?_
  refine lv_iconst (v := (-1)) X.1 X.2.1 dX11_cocoon_13 (by decide) ?_
  exact ret_i X hw hr hlocks (Nat.le_of_ble_eq_true rfl) (Nat.le_of_ble_eq_true rfl) rfl dX11_cocoon_14
set_option maxHeartbeats 4000000 in
set_option maxRecDepth 100000 in
theorem c_X11_test (l : Launch) (G : va_G) (cy : Nat → ClassId) (S : PS) (sz : Nat) (x : Nat) (a1 : Int32) (a2 : Int32) (a3 : Int32) (hF : FX S x) : Ci l yX11_test wsX11_test ({ frames := 4, cells := 0, slots := 0, locals := 160 }) G cy S sz [.ref x, .int (a1), .int (a2), .int (a3)] (fun (r : Int32) (S9 : PS) => r = -1) := by
  refine ent_m (cc := cX11_test) (maxL := 10) (ret := (some .int)) (by decide) rfl (Nat.le_of_ble_eq_true rfl) ?_
  intro p e s m below meth c ls X hr hlocks hin hw hl hsz
  subst hsz
  have X : Cx p c cX11_test 10 s [.ref x, .int (a1), .int (a2), .int (a3)].toArray wsX11_test RX11 m G cy (AS S s.heap.size) := X
  have hl : lv_has ls 10 [(0, .ref x), (1, .int (a1)), (2, .int (a2)), (3, .int (a3))] := hl
  have hF0 := hF
  obtain ⟨hat_x, ci_lots, ci_pots, ci_shv, ⟨cs, rf_cs, hat_cs, ln_cs⟩, ⟨lz, rf_lz, hat_lz, ln_lz⟩, ⟨ps, rf_ps, hat_ps, ln_ps⟩, ⟨tp, rf_tp, hat_tp, ci_tsz, ci_tfp, ⟨tb, rf_tb, hat_tb, ln_tb⟩⟩, ⟨st, rf_st, hat_st, ci_st, ⟨pr, rf_pr, hat_pr, ln_pr⟩, ⟨mx, rf_mx, hat_mx⟩⟩, ⟨dr, rf_dr, hat_dr, ci_dsz⟩, sh, rf_sh, hat_sh, ln_sh, hpl⟩ := hF
  have hF := hF0
  refine lv_iload_n X.1 X.2.1 dX11_test_0 rfl (lv_at hl 1 rfl) ?_
  refine lv_if_lt (tgt := 16) X.1 X.2.1 dX11_test_1 (by decide) (fun c_1 => ?_) (fun c_1 => ?_)
  · have z_1 := trivial
    refine lv_iconst (v := (-1)) X.1 X.2.1 dX11_test_16 (by decide) ?_
    exact ret_i X hw hr hlocks (Nat.le_of_ble_eq_true rfl) (Nat.le_of_ble_eq_true rfl) rfl dX11_test_17
  · have z_1 := trivial
    refine lv_iload_n X.1 X.2.1 dX11_test_4 rfl (lv_at hl 1 rfl) ?_
    refine lv_aload_n X.1 X.2.1 dX11_test_5 rfl (lv_at hl 0 rfl) ?_
    refine r_get (v := .int 0) X hw hat_x 2 (by decide) rfl inn_X11_test_11 (by decide) (X.2.2.2.1 (.fieldLink RX11 63 "SilkMill" "lots" "I") (by decide +kernel)) rfl ((gv_1102 _ _).trans (congrArg (fun z => some (Value.int z)) ci_lots)) dX11_test_6 ?_
    refine lv_icmp_ge (tgt := 16) X.1 X.2.1 dX11_test_9 (by decide) (fun c_9 => ?_) (fun c_9 => absurd (Int32.not_lt.mp c_1) c_9)
    refine lv_iconst (v := (-1)) X.1 X.2.1 dX11_test_16 (by decide) ?_
    exact ret_i X hw hr hlocks (Nat.le_of_ble_eq_true rfl) (Nat.le_of_ble_eq_true rfl) rfl dX11_test_17
set_option maxHeartbeats 4000000 in
set_option maxRecDepth 100000 in
theorem c_X11_target (l : Launch) (G : va_G) (cy : Nat → ClassId) (S : PS) (sz : Nat) (x : Nat) (a1 : Int32) (a2 : Int32) (hF : FX S x) : Ci l yX11_target wsX11_target ({ frames := 4, cells := 0, slots := 0, locals := 160 }) G cy S sz [.ref x, .int (a1), .int (a2)] (fun (r : Int32) (S9 : PS) => r = 0) := by
  refine ent_m (cc := cX11_target) (maxL := 4) (ret := (some .boolean)) (by decide) rfl (Nat.le_of_ble_eq_true rfl) ?_
  intro p e s m below meth c ls X hr hlocks hin hw hl hsz
  subst hsz
  have X : Cx p c cX11_target 4 s [.ref x, .int (a1), .int (a2)].toArray wsX11_target RX11 m G cy (AS S s.heap.size) := X
  have hl : lv_has ls 4 [(0, .ref x), (1, .int (a1)), (2, .int (a2))] := hl
  have hF0 := hF
  obtain ⟨hat_x, ci_lots, ci_pots, ci_shv, ⟨cs, rf_cs, hat_cs, ln_cs⟩, ⟨lz, rf_lz, hat_lz, ln_lz⟩, ⟨ps, rf_ps, hat_ps, ln_ps⟩, ⟨tp, rf_tp, hat_tp, ci_tsz, ci_tfp, ⟨tb, rf_tb, hat_tb, ln_tb⟩⟩, ⟨st, rf_st, hat_st, ci_st, ⟨pr, rf_pr, hat_pr, ln_pr⟩, ⟨mx, rf_mx, hat_mx⟩⟩, ⟨dr, rf_dr, hat_dr, ci_dsz⟩, sh, rf_sh, hat_sh, ln_sh, hpl⟩ := hF
  have hF := hF0
  refine lv_aload_n X.1 X.2.1 dX11_target_0 rfl (lv_at hl 0 rfl) ?_
  refine lv_iload_n X.1 X.2.1 dX11_target_1 rfl (lv_at hl 1 rfl) ?_
  refine k_q (rm := { frames := 1, cells := 0, slots := 0, locals := 40 }) (av := [.ref x, .int (a1)]) X hw (va_runV (As := [.int (a1)]) (rest := []) (cfix X) (c_X11_potAt l G cy S _ x (a1) hF) (cwV 1 X.2.2.2.1 gX11_target_X11_potAt rfl rfl rfl (by decide +kernel) ⟨Nat.le_of_ble_eq_true rfl, Nat.le_of_ble_eq_true rfl⟩) (pre_V X hw _ hat_x (by decide) rfl) rfl rfl hl.1 rfl (lv_room (Nat.le_of_ble_eq_true rfl)) dX11_target_2 ⟨Nat.le_of_ble_eq_true rfl, Nat.le_of_ble_eq_true rfl⟩) 0 0 (Nat.le_of_ble_eq_true rfl) (Nat.le_of_ble_eq_true rfl) (fun rr_2 S2 H locs hp hw hfr hnw => ?_)
  obtain ⟨e2_2, er_2⟩ := hp
  subst e2_2
  subst er_2
  refine W.eq (g2 := F0 m 5 ls (.null :: [])) rfl ?_
  refine lv_astore_nN (lv' := [(3, .null), (0, .ref x), (1, .int (a1)), (2, .int (a2))]) X.1 X.2.1 dX11_target_5 rfl hl (by decide) rfl (fun ls hl => ?_)
  refine lv_aload_nN X.1 X.2.1 dX11_target_6 rfl (lv_at hl 0 rfl) ?_
  refine lv_ifnullN (tgt := 17) X.1 X.2.1 dX11_target_7 (by decide) ?_
  refine lv_iconst (v := 0) X.1 X.2.1 dX11_target_17 (by decide) ?_
  exact ret_z X hw hr hlocks (Nat.le_of_ble_eq_true rfl) (Nat.le_of_ble_eq_true rfl) (by decide) rfl dX11_target_18
set_option maxHeartbeats 4000000 in
set_option maxRecDepth 100000 in
theorem c_X11_fill (l : Launch) (G : va_G) (cy : Nat → ClassId) (S : PS) (sz : Nat) (x : Nat) (a1 : Int32) (a2 : Int32) (a3 : Int32) (a4 : Int32) (hF : FX S x) : Ci l yX11_fill wsX11_fill ({ frames := 4, cells := 0, slots := 0, locals := 160 }) G cy S sz [.ref x, .int (a1), .int (a2), .int (a3), .int (a4)] (fun (r : Int32) (S9 : PS) => r = 0) := by
  refine ent_m (cc := cX11_fill) (maxL := 8) (ret := (some .boolean)) (by decide) rfl (Nat.le_of_ble_eq_true rfl) ?_
  intro p e s m below meth c ls X hr hlocks hin hw hl hsz
  subst hsz
  have X : Cx p c cX11_fill 8 s [.ref x, .int (a1), .int (a2), .int (a3), .int (a4)].toArray wsX11_fill RX11 m G cy (AS S s.heap.size) := X
  have hl : lv_has ls 8 [(0, .ref x), (1, .int (a1)), (2, .int (a2)), (3, .int (a3)), (4, .int (a4))] := hl
  have hF0 := hF
  obtain ⟨hat_x, ci_lots, ci_pots, ci_shv, ⟨cs, rf_cs, hat_cs, ln_cs⟩, ⟨lz, rf_lz, hat_lz, ln_lz⟩, ⟨ps, rf_ps, hat_ps, ln_ps⟩, ⟨tp, rf_tp, hat_tp, ci_tsz, ci_tfp, ⟨tb, rf_tb, hat_tb, ln_tb⟩⟩, ⟨st, rf_st, hat_st, ci_st, ⟨pr, rf_pr, hat_pr, ln_pr⟩, ⟨mx, rf_mx, hat_mx⟩⟩, ⟨dr, rf_dr, hat_dr, ci_dsz⟩, sh, rf_sh, hat_sh, ln_sh, hpl⟩ := hF
  have hF := hF0
  refine lv_aload_n X.1 X.2.1 dX11_fill_0 rfl (lv_at hl 0 rfl) ?_
  refine lv_iload_n X.1 X.2.1 dX11_fill_1 rfl (lv_at hl 1 rfl) ?_
  refine k_q (rm := { frames := 1, cells := 0, slots := 0, locals := 40 }) (av := [.ref x, .int (a1)]) X hw (va_runV (As := [.int (a1)]) (rest := []) (cfix X) (c_X11_potAt l G cy S _ x (a1) hF) (cwV 1 X.2.2.2.1 gX11_fill_X11_potAt rfl rfl rfl (by decide +kernel) ⟨Nat.le_of_ble_eq_true rfl, Nat.le_of_ble_eq_true rfl⟩) (pre_V X hw _ hat_x (by decide) rfl) rfl rfl hl.1 rfl (lv_room (Nat.le_of_ble_eq_true rfl)) dX11_fill_2 ⟨Nat.le_of_ble_eq_true rfl, Nat.le_of_ble_eq_true rfl⟩) 0 0 (Nat.le_of_ble_eq_true rfl) (Nat.le_of_ble_eq_true rfl) (fun rr_2 S2 H locs hp hw hfr hnw => ?_)
  obtain ⟨e2_2, er_2⟩ := hp
  subst e2_2
  subst er_2
  refine W.eq (g2 := F0 m 5 ls (.null :: [])) rfl ?_
  refine lv_astoreN (lv' := [(5, .null), (0, .ref x), (1, .int (a1)), (2, .int (a2)), (3, .int (a3)), (4, .int (a4))]) X.1 X.2.1 dX11_fill_5 hl (by decide) rfl (fun ls hl => ?_)
  refine lv_aloadN X.1 X.2.1 dX11_fill_7 (lv_at hl 0 rfl) ?_
  refine lv_ifnullN (tgt := 33) X.1 X.2.1 dX11_fill_9 (by decide) ?_
  refine lv_iconst (v := 0) X.1 X.2.1 dX11_fill_33 (by decide) ?_
  exact ret_z X hw hr hlocks (Nat.le_of_ble_eq_true rfl) (Nat.le_of_ble_eq_true rfl) (by decide) rfl dX11_fill_34
set_option maxHeartbeats 4000000 in
set_option maxRecDepth 100000 in
theorem c_X11_place (l : Launch) (G : va_G) (cy : Nat → ClassId) (S : PS) (sz : Nat) (x : Nat) (hF : FX S x) : Ci l yX11_place wsX11_place ({ frames := 4, cells := 0, slots := 0, locals := 160 }) G cy S sz [.ref x] (fun (r : Int32) (S9 : PS) => r = -1) := by
  refine ent_m (cc := cX11_place) (maxL := 1) (ret := (some .int)) (by decide) rfl (Nat.le_of_ble_eq_true rfl) ?_
  intro p e s m below meth c ls X hr hlocks hin hw hl hsz
  subst hsz
  have X : Cx p c cX11_place 1 s [.ref x].toArray wsX11_place RX11 m G cy (AS S s.heap.size) := X
  have hl : lv_has ls 1 [(0, .ref x)] := hl
  have hF0 := hF
  obtain ⟨hat_x, ci_lots, ci_pots, ci_shv, ⟨cs, rf_cs, hat_cs, ln_cs⟩, ⟨lz, rf_lz, hat_lz, ln_lz⟩, ⟨ps, rf_ps, hat_ps, ln_ps⟩, ⟨tp, rf_tp, hat_tp, ci_tsz, ci_tfp, ⟨tb, rf_tb, hat_tb, ln_tb⟩⟩, ⟨st, rf_st, hat_st, ci_st, ⟨pr, rf_pr, hat_pr, ln_pr⟩, ⟨mx, rf_mx, hat_mx⟩⟩, ⟨dr, rf_dr, hat_dr, ci_dsz⟩, sh, rf_sh, hat_sh, ln_sh, hpl⟩ := hF
  have hF := hF0
  refine lv_aload_n X.1 X.2.1 dX11_place_0 rfl (lv_at hl 0 rfl) ?_
  refine r_getR (g := 1105) X hw hat_x 5 rf_tp (by decide) rfl inn_X11_place_11 (by decide) (X.2.2.2.1 (.fieldLink RX11 28 "SilkMill" "tape" "LSilkMill$Tape;") (by decide +kernel)) rfl (gv_1105 _ _) dX11_place_1 ?_
  refine r_get (v := .int (-1)) X hw hat_tp 2 (by decide) rfl inn_X11_place_10 (by decide) (X.2.2.2.1 (.fieldLink RX11 166 "SilkMill$Tape" "faultPlace" "I") (by decide +kernel)) rfl ((gv_1002 _ _).trans (congrArg (fun z => some (Value.int z)) ci_tfp)) dX11_place_4 ?_
  exact ret_i X hw hr hlocks (Nat.le_of_ble_eq_true rfl) (Nat.le_of_ble_eq_true rfl) rfl dX11_place_7
set_option maxHeartbeats 4000000 in
set_option maxRecDepth 100000 in
theorem c_X11_run (l : Launch) (G : va_G) (cy : Nat → ClassId) (S : PS) (sz : Nat) (x : Nat) (a1 : Int32) (a2 : Int32) (hF : FX S x) : Ci l yX11_run wsX11_run ({ frames := 4, cells := 0, slots := 0, locals := 160 }) G cy S sz [.ref x, .int (a1), .int (a2)] (fun (r : Int32) (S9 : PS) => r = -1) := by
  refine ent_m (cc := cX11_run) (maxL := 6) (ret := (some .int)) (by decide) rfl (Nat.le_of_ble_eq_true rfl) ?_
  intro p e s m below meth c ls X hr hlocks hin hw hl hsz
  subst hsz
  have X : Cx p c cX11_run 6 s [.ref x, .int (a1), .int (a2)].toArray wsX11_run RX11 m G cy (AS S s.heap.size) := X
  have hl : lv_has ls 6 [(0, .ref x), (1, .int (a1)), (2, .int (a2))] := hl
  have hF0 := hF
  obtain ⟨hat_x, ci_lots, ci_pots, ci_shv, ⟨cs, rf_cs, hat_cs, ln_cs⟩, ⟨lz, rf_lz, hat_lz, ln_lz⟩, ⟨ps, rf_ps, hat_ps, ln_ps⟩, ⟨tp, rf_tp, hat_tp, ci_tsz, ci_tfp, ⟨tb, rf_tb, hat_tb, ln_tb⟩⟩, ⟨st, rf_st, hat_st, ci_st, ⟨pr, rf_pr, hat_pr, ln_pr⟩, ⟨mx, rf_mx, hat_mx⟩⟩, ⟨dr, rf_dr, hat_dr, ci_dsz⟩, sh, rf_sh, hat_sh, ln_sh, hpl⟩ := hF
  have hF := hF0
  refine lv_aload_n X.1 X.2.1 dX11_run_0 rfl (lv_at hl 0 rfl) ?_
  refine lv_iload_n X.1 X.2.1 dX11_run_1 rfl (lv_at hl 1 rfl) ?_
  refine k_q (rm := { frames := 1, cells := 0, slots := 0, locals := 40 }) (av := [.ref x, .int (a1)]) X hw (va_runV (As := [.int (a1)]) (rest := []) (cfix X) (c_X11_potAt l G cy S _ x (a1) hF) (cwV 1 X.2.2.2.1 gX11_run_X11_potAt rfl rfl rfl (by decide +kernel) ⟨Nat.le_of_ble_eq_true rfl, Nat.le_of_ble_eq_true rfl⟩) (pre_V X hw _ hat_x (by decide) rfl) rfl rfl hl.1 rfl (lv_room (Nat.le_of_ble_eq_true rfl)) dX11_run_2 ⟨Nat.le_of_ble_eq_true rfl, Nat.le_of_ble_eq_true rfl⟩) 0 0 (Nat.le_of_ble_eq_true rfl) (Nat.le_of_ble_eq_true rfl) (fun rr_2 S2 H locs hp hw hfr hnw => ?_)
  obtain ⟨e2_2, er_2⟩ := hp
  subst e2_2
  subst er_2
  refine W.eq (g2 := F0 m 5 ls (.null :: [])) rfl ?_
  refine lv_astore_nN (lv' := [(3, .null), (0, .ref x), (1, .int (a1)), (2, .int (a2))]) X.1 X.2.1 dX11_run_5 rfl hl (by decide) rfl (fun ls hl => ?_)
  refine lv_aload_nN X.1 X.2.1 dX11_run_6 rfl (lv_at hl 0 rfl) ?_
  refine lv_ifnullN (tgt := 21) X.1 X.2.1 dX11_run_7 (by decide) ?_
  refine lv_iconst (v := (-1)) X.1 X.2.1 dX11_run_21 (by decide) ?_
  exact ret_i X hw hr hlocks (Nat.le_of_ble_eq_true rfl) (Nat.le_of_ble_eq_true rfl) rfl dX11_run_22
set_option maxHeartbeats 4000000 in
set_option maxRecDepth 100000 in
theorem c_X11_about (l : Launch) (G : va_G) (cy : Nat → ClassId) (S : PS) (sz : Nat) (x : Nat) (a1 : Int32) (a2 : Int32) (hF : FX S x) : Ci l yX11_about wsX11_about ({ frames := 4, cells := 0, slots := 0, locals := 160 }) G cy S sz [.ref x, .int (a1), .int (a2)] (fun (r : Int32) (S9 : PS) => r = -1) := by
  refine ent_m (cc := cX11_about) (maxL := 4) (ret := (some .int)) (by decide) rfl (Nat.le_of_ble_eq_true rfl) ?_
  intro p e s m below meth c ls X hr hlocks hin hw hl hsz
  subst hsz
  have X : Cx p c cX11_about 4 s [.ref x, .int (a1), .int (a2)].toArray wsX11_about RX11 m G cy (AS S s.heap.size) := X
  have hl : lv_has ls 4 [(0, .ref x), (1, .int (a1)), (2, .int (a2))] := hl
  have hF0 := hF
  obtain ⟨hat_x, ci_lots, ci_pots, ci_shv, ⟨cs, rf_cs, hat_cs, ln_cs⟩, ⟨lz, rf_lz, hat_lz, ln_lz⟩, ⟨ps, rf_ps, hat_ps, ln_ps⟩, ⟨tp, rf_tp, hat_tp, ci_tsz, ci_tfp, ⟨tb, rf_tb, hat_tb, ln_tb⟩⟩, ⟨st, rf_st, hat_st, ci_st, ⟨pr, rf_pr, hat_pr, ln_pr⟩, ⟨mx, rf_mx, hat_mx⟩⟩, ⟨dr, rf_dr, hat_dr, ci_dsz⟩, sh, rf_sh, hat_sh, ln_sh, hpl⟩ := hF
  have hF := hF0
  refine lv_aload_n X.1 X.2.1 dX11_about_0 rfl (lv_at hl 0 rfl) ?_
  refine lv_iload_n X.1 X.2.1 dX11_about_1 rfl (lv_at hl 1 rfl) ?_
  refine k_q (rm := { frames := 1, cells := 0, slots := 0, locals := 40 }) (av := [.ref x, .int (a1)]) X hw (va_runV (As := [.int (a1)]) (rest := []) (cfix X) (c_X11_potAt l G cy S _ x (a1) hF) (cwV 1 X.2.2.2.1 gX11_about_X11_potAt rfl rfl rfl (by decide +kernel) ⟨Nat.le_of_ble_eq_true rfl, Nat.le_of_ble_eq_true rfl⟩) (pre_V X hw _ hat_x (by decide) rfl) rfl rfl hl.1 rfl (lv_room (Nat.le_of_ble_eq_true rfl)) dX11_about_2 ⟨Nat.le_of_ble_eq_true rfl, Nat.le_of_ble_eq_true rfl⟩) 0 0 (Nat.le_of_ble_eq_true rfl) (Nat.le_of_ble_eq_true rfl) (fun rr_2 S2 H locs hp hw hfr hnw => ?_)
  obtain ⟨e2_2, er_2⟩ := hp
  subst e2_2
  subst er_2
  refine W.eq (g2 := F0 m 5 ls (.null :: [])) rfl ?_
  refine lv_astore_nN (lv' := [(3, .null), (0, .ref x), (1, .int (a1)), (2, .int (a2))]) X.1 X.2.1 dX11_about_5 rfl hl (by decide) rfl (fun ls hl => ?_)
  refine lv_aload_nN X.1 X.2.1 dX11_about_6 rfl (lv_at hl 0 rfl) ?_
  refine lv_ifnonnullN X.1 X.2.1 dX11_about_7 ?_
  refine lv_iconst (v := (-1)) X.1 X.2.1 dX11_about_10 (by decide) ?_
  exact ret_i X hw hr hlocks (Nat.le_of_ble_eq_true rfl) (Nat.le_of_ble_eq_true rfl) rfl dX11_about_11
set_option maxHeartbeats 4000000 in
set_option maxRecDepth 100000 in
theorem c_X11_cut (l : Launch) (G : va_G) (cy : Nat → ClassId) (S : PS) (sz : Nat) (x : Nat) (a1 : Int32) (hF : FX S x) : Ci l yX11_cut wsX11_cut ({ frames := 4, cells := 0, slots := 0, locals := 160 }) G cy S sz [.ref x, .int (a1)] (fun (r : Int32) (S9 : PS) => r = -1) := by
  refine ent_m (cc := cX11_cut) (maxL := 3) (ret := (some .int)) (by decide) rfl (Nat.le_of_ble_eq_true rfl) ?_
  intro p e s m below meth c ls X hr hlocks hin hw hl hsz
  subst hsz
  have X : Cx p c cX11_cut 3 s [.ref x, .int (a1)].toArray wsX11_cut RX11 m G cy (AS S s.heap.size) := X
  have hl : lv_has ls 3 [(0, .ref x), (1, .int (a1))] := hl
  have hF0 := hF
  obtain ⟨hat_x, ci_lots, ci_pots, ci_shv, ⟨cs, rf_cs, hat_cs, ln_cs⟩, ⟨lz, rf_lz, hat_lz, ln_lz⟩, ⟨ps, rf_ps, hat_ps, ln_ps⟩, ⟨tp, rf_tp, hat_tp, ci_tsz, ci_tfp, ⟨tb, rf_tb, hat_tb, ln_tb⟩⟩, ⟨st, rf_st, hat_st, ci_st, ⟨pr, rf_pr, hat_pr, ln_pr⟩, ⟨mx, rf_mx, hat_mx⟩⟩, ⟨dr, rf_dr, hat_dr, ci_dsz⟩, sh, rf_sh, hat_sh, ln_sh, hpl⟩ := hF
  have hF := hF0
  refine lv_aload_n X.1 X.2.1 dX11_cut_0 rfl (lv_at hl 0 rfl) ?_
  refine lv_iload_n X.1 X.2.1 dX11_cut_1 rfl (lv_at hl 1 rfl) ?_
  refine k_q (rm := { frames := 1, cells := 0, slots := 0, locals := 40 }) (av := [.ref x, .int (a1)]) X hw (va_runV (As := [.int (a1)]) (rest := []) (cfix X) (c_X11_potAt l G cy S _ x (a1) hF) (cwV 1 X.2.2.2.1 gX11_cut_X11_potAt rfl rfl rfl (by decide +kernel) ⟨Nat.le_of_ble_eq_true rfl, Nat.le_of_ble_eq_true rfl⟩) (pre_V X hw _ hat_x (by decide) rfl) rfl rfl hl.1 rfl (lv_room (Nat.le_of_ble_eq_true rfl)) dX11_cut_2 ⟨Nat.le_of_ble_eq_true rfl, Nat.le_of_ble_eq_true rfl⟩) 0 0 (Nat.le_of_ble_eq_true rfl) (Nat.le_of_ble_eq_true rfl) (fun rr_2 S2 H locs hp hw hfr hnw => ?_)
  obtain ⟨e2_2, er_2⟩ := hp
  subst e2_2
  subst er_2
  refine W.eq (g2 := F0 m 5 ls (.null :: [])) rfl ?_
  refine lv_astore_nN (lv' := [(2, .null), (0, .ref x), (1, .int (a1))]) X.1 X.2.1 dX11_cut_5 rfl hl (by decide) rfl (fun ls hl => ?_)
  refine lv_aload_nN X.1 X.2.1 dX11_cut_6 rfl (lv_at hl 0 rfl) ?_
  refine lv_ifnonnullN X.1 X.2.1 dX11_cut_7 ?_
  refine lv_iconst (v := (-1)) X.1 X.2.1 dX11_cut_10 (by decide) ?_
  refine lv_goto (tgt := 22) X.1 X.2.1 dX11_cut_11 (by decide) ?_
  exact ret_i X hw hr hlocks (Nat.le_of_ble_eq_true rfl) (Nat.le_of_ble_eq_true rfl) rfl dX11_cut_22
set_option maxHeartbeats 4000000 in
set_option maxRecDepth 100000 in
theorem c_X11_skein (l : Launch) (G : va_G) (cy : Nat → ClassId) (S : PS) (sz : Nat) (x : Nat) (a1 : Int32) (a2 : Int32) (hF : FX S x) : Ci l yX11_skein wsX11_skein ({ frames := 4, cells := 0, slots := 0, locals := 160 }) G cy S sz [.ref x, .int (a1), .int (a2)] (fun (r : Int32) (S9 : PS) => r = -1) := by
  refine ent_m (cc := cX11_skein) (maxL := 4) (ret := (some .int)) (by decide) rfl (Nat.le_of_ble_eq_true rfl) ?_
  intro p e s m below meth c ls X hr hlocks hin hw hl hsz
  subst hsz
  have X : Cx p c cX11_skein 4 s [.ref x, .int (a1), .int (a2)].toArray wsX11_skein RX11 m G cy (AS S s.heap.size) := X
  have hl : lv_has ls 4 [(0, .ref x), (1, .int (a1)), (2, .int (a2))] := hl
  have hF0 := hF
  obtain ⟨hat_x, ci_lots, ci_pots, ci_shv, ⟨cs, rf_cs, hat_cs, ln_cs⟩, ⟨lz, rf_lz, hat_lz, ln_lz⟩, ⟨ps, rf_ps, hat_ps, ln_ps⟩, ⟨tp, rf_tp, hat_tp, ci_tsz, ci_tfp, ⟨tb, rf_tb, hat_tb, ln_tb⟩⟩, ⟨st, rf_st, hat_st, ci_st, ⟨pr, rf_pr, hat_pr, ln_pr⟩, ⟨mx, rf_mx, hat_mx⟩⟩, ⟨dr, rf_dr, hat_dr, ci_dsz⟩, sh, rf_sh, hat_sh, ln_sh, hpl⟩ := hF
  have ci_800 := ci_st 800 (by decide)
  have ci_801 := ci_st 801 (by decide)
  have ci_802 := ci_st 802 (by decide)
  have ci_803 := ci_st 803 (by decide)
  have ci_804 := ci_st 804 (by decide)
  have ci_805 := ci_st 805 (by decide)
  have ci_806 := ci_st 806 (by decide)
  have hF := hF0
  have hFst : StF S st := by obtain ⟨-, -, -, -, -, -, -, -, ⟨t9, h8, h9⟩, -⟩ := hF; rw [h8] at rf_st; cases rf_st; exact h9
  refine lv_aload_n X.1 X.2.1 dX11_skein_0 rfl (lv_at hl 0 rfl) ?_
  refine r_getR (g := 1107) X hw hat_x 7 rf_st (by decide) rfl inn_X11_skein_11 (by decide) (X.2.2.2.1 (.fieldLink RX11 42 "SilkMill" "store" "LSilkMill$Store;") (by decide +kernel)) rfl (gv_1107 _ _) dX11_skein_1 ?_
  refine lv_iload_n X.1 X.2.1 dX11_skein_4 rfl (lv_at hl 1 rfl) ?_
  refine k_q (rm := { frames := 1, cells := 0, slots := 0, locals := 40 }) (av := [.ref st, .int (a1)]) X hw (va_runV (As := [.int (a1)]) (rest := []) (cfix X) (c_X8_skeinAt l G cy S _ st (a1) hFst) (cwV 1 X.2.2.2.1 gX11_skein_X8_skeinAt rfl rfl rfl (by decide +kernel) ⟨Nat.le_of_ble_eq_true rfl, Nat.le_of_ble_eq_true rfl⟩) (pre_V X hw _ hat_st (by decide) rfl) rfl rfl hl.1 rfl (lv_room (Nat.le_of_ble_eq_true rfl)) dX11_skein_5 ⟨Nat.le_of_ble_eq_true rfl, Nat.le_of_ble_eq_true rfl⟩) 0 0 (Nat.le_of_ble_eq_true rfl) (Nat.le_of_ble_eq_true rfl) (fun rr_5 S2 H locs hp hw hfr hnw => ?_)
  obtain ⟨e2_5, er_5⟩ := hp
  subst e2_5
  subst er_5
  refine W.eq (g2 := F0 m 8 ls (.null :: [])) rfl ?_
  refine lv_astore_nN (lv' := [(3, .null), (0, .ref x), (1, .int (a1)), (2, .int (a2))]) X.1 X.2.1 dX11_skein_8 rfl hl (by decide) rfl (fun ls hl => ?_)
  refine lv_aload_nN X.1 X.2.1 dX11_skein_9 rfl (lv_at hl 0 rfl) ?_
  refine lv_ifnonnullN X.1 X.2.1 dX11_skein_10 ?_
  refine lv_iconst (v := (-1)) X.1 X.2.1 dX11_skein_13 (by decide) ?_
  exact ret_i X hw hr hlocks (Nat.le_of_ble_eq_true rfl) (Nat.le_of_ble_eq_true rfl) rfl dX11_skein_14
set_option maxHeartbeats 4000000 in
set_option maxRecDepth 100000 in
theorem c_X11_metre (l : Launch) (G : va_G) (cy : Nat → ClassId) (S : PS) (sz : Nat) (x : Nat) (a1 : Int32) (a2 : Int32) (a3 : Int32) (hF : FX S x) : Ci l yX11_metre wsX11_metre ({ frames := 4, cells := 0, slots := 0, locals := 160 }) G cy S sz [.ref x, .int (a1), .int (a2), .int (a3)] (fun (r : Int32) (S9 : PS) => r = -1) := by
  refine ent_m (cc := cX11_metre) (maxL := 5) (ret := (some .int)) (by decide) rfl (Nat.le_of_ble_eq_true rfl) ?_
  intro p e s m below meth c ls X hr hlocks hin hw hl hsz
  subst hsz
  have X : Cx p c cX11_metre 5 s [.ref x, .int (a1), .int (a2), .int (a3)].toArray wsX11_metre RX11 m G cy (AS S s.heap.size) := X
  have hl : lv_has ls 5 [(0, .ref x), (1, .int (a1)), (2, .int (a2)), (3, .int (a3))] := hl
  have hF0 := hF
  obtain ⟨hat_x, ci_lots, ci_pots, ci_shv, ⟨cs, rf_cs, hat_cs, ln_cs⟩, ⟨lz, rf_lz, hat_lz, ln_lz⟩, ⟨ps, rf_ps, hat_ps, ln_ps⟩, ⟨tp, rf_tp, hat_tp, ci_tsz, ci_tfp, ⟨tb, rf_tb, hat_tb, ln_tb⟩⟩, ⟨st, rf_st, hat_st, ci_st, ⟨pr, rf_pr, hat_pr, ln_pr⟩, ⟨mx, rf_mx, hat_mx⟩⟩, ⟨dr, rf_dr, hat_dr, ci_dsz⟩, sh, rf_sh, hat_sh, ln_sh, hpl⟩ := hF
  have ci_800 := ci_st 800 (by decide)
  have ci_801 := ci_st 801 (by decide)
  have ci_802 := ci_st 802 (by decide)
  have ci_803 := ci_st 803 (by decide)
  have ci_804 := ci_st 804 (by decide)
  have ci_805 := ci_st 805 (by decide)
  have ci_806 := ci_st 806 (by decide)
  have hF := hF0
  have hFst : StF S st := by obtain ⟨-, -, -, -, -, -, -, -, ⟨t9, h8, h9⟩, -⟩ := hF; rw [h8] at rf_st; cases rf_st; exact h9
  refine lv_aload_n X.1 X.2.1 dX11_metre_0 rfl (lv_at hl 0 rfl) ?_
  refine r_getR (g := 1107) X hw hat_x 7 rf_st (by decide) rfl inn_X11_metre_11 (by decide) (X.2.2.2.1 (.fieldLink RX11 42 "SilkMill" "store" "LSilkMill$Store;") (by decide +kernel)) rfl (gv_1107 _ _) dX11_metre_1 ?_
  refine lv_iload_n X.1 X.2.1 dX11_metre_4 rfl (lv_at hl 1 rfl) ?_
  refine k_q (rm := { frames := 1, cells := 0, slots := 0, locals := 40 }) (av := [.ref st, .int (a1)]) X hw (va_runV (As := [.int (a1)]) (rest := []) (cfix X) (c_X8_skeinAt l G cy S _ st (a1) hFst) (cwV 1 X.2.2.2.1 gX11_metre_X8_skeinAt rfl rfl rfl (by decide +kernel) ⟨Nat.le_of_ble_eq_true rfl, Nat.le_of_ble_eq_true rfl⟩) (pre_V X hw _ hat_st (by decide) rfl) rfl rfl hl.1 rfl (lv_room (Nat.le_of_ble_eq_true rfl)) dX11_metre_5 ⟨Nat.le_of_ble_eq_true rfl, Nat.le_of_ble_eq_true rfl⟩) 0 0 (Nat.le_of_ble_eq_true rfl) (Nat.le_of_ble_eq_true rfl) (fun rr_5 S2 H locs hp hw hfr hnw => ?_)
  obtain ⟨e2_5, er_5⟩ := hp
  subst e2_5
  subst er_5
  refine W.eq (g2 := F0 m 8 ls (.null :: [])) rfl ?_
  refine lv_astoreN (lv' := [(4, .null), (0, .ref x), (1, .int (a1)), (2, .int (a2)), (3, .int (a3))]) X.1 X.2.1 dX11_metre_8 hl (by decide) rfl (fun ls hl => ?_)
  refine lv_aloadN X.1 X.2.1 dX11_metre_10 (lv_at hl 0 rfl) ?_
  refine lv_ifnullN (tgt := 31) X.1 X.2.1 dX11_metre_12 (by decide) ?_
  refine lv_iconst (v := (-1)) X.1 X.2.1 dX11_metre_31 (by decide) ?_
  exact ret_i X hw hr hlocks (Nat.le_of_ble_eq_true rfl) (Nat.le_of_ble_eq_true rfl) rfl dX11_metre_32
set_option maxHeartbeats 4000000 in
set_option maxRecDepth 100000 in
theorem c_X11_piece (l : Launch) (G : va_G) (cy : Nat → ClassId) (S : PS) (sz : Nat) (x : Nat) (a1 : Int32) (a2 : Int32) (a3 : Int32) (hF : FX S x) : Ci l yX11_piece wsX11_piece ({ frames := 4, cells := 0, slots := 0, locals := 160 }) G cy S sz [.ref x, .int (a1), .int (a2), .int (a3)] (fun (r : Int32) (S9 : PS) => r = -1) := by
  refine ent_m (cc := cX11_piece) (maxL := 5) (ret := (some .int)) (by decide) rfl (Nat.le_of_ble_eq_true rfl) ?_
  intro p e s m below meth c ls X hr hlocks hin hw hl hsz
  subst hsz
  have X : Cx p c cX11_piece 5 s [.ref x, .int (a1), .int (a2), .int (a3)].toArray wsX11_piece RX11 m G cy (AS S s.heap.size) := X
  have hl : lv_has ls 5 [(0, .ref x), (1, .int (a1)), (2, .int (a2)), (3, .int (a3))] := hl
  have hF0 := hF
  obtain ⟨hat_x, ci_lots, ci_pots, ci_shv, ⟨cs, rf_cs, hat_cs, ln_cs⟩, ⟨lz, rf_lz, hat_lz, ln_lz⟩, ⟨ps, rf_ps, hat_ps, ln_ps⟩, ⟨tp, rf_tp, hat_tp, ci_tsz, ci_tfp, ⟨tb, rf_tb, hat_tb, ln_tb⟩⟩, ⟨st, rf_st, hat_st, ci_st, ⟨pr, rf_pr, hat_pr, ln_pr⟩, ⟨mx, rf_mx, hat_mx⟩⟩, ⟨dr, rf_dr, hat_dr, ci_dsz⟩, sh, rf_sh, hat_sh, ln_sh, hpl⟩ := hF
  have ci_800 := ci_st 800 (by decide)
  have ci_801 := ci_st 801 (by decide)
  have ci_802 := ci_st 802 (by decide)
  have ci_803 := ci_st 803 (by decide)
  have ci_804 := ci_st 804 (by decide)
  have ci_805 := ci_st 805 (by decide)
  have ci_806 := ci_st 806 (by decide)
  have hF := hF0
  have hFst : StF S st := by obtain ⟨-, -, -, -, -, -, -, -, ⟨t9, h8, h9⟩, -⟩ := hF; rw [h8] at rf_st; cases rf_st; exact h9
  refine lv_aload_n X.1 X.2.1 dX11_piece_0 rfl (lv_at hl 0 rfl) ?_
  refine r_getR (g := 1107) X hw hat_x 7 rf_st (by decide) rfl inn_X11_piece_11 (by decide) (X.2.2.2.1 (.fieldLink RX11 42 "SilkMill" "store" "LSilkMill$Store;") (by decide +kernel)) rfl (gv_1107 _ _) dX11_piece_1 ?_
  refine lv_iload_n X.1 X.2.1 dX11_piece_4 rfl (lv_at hl 1 rfl) ?_
  refine k_q (rm := { frames := 1, cells := 0, slots := 0, locals := 40 }) (av := [.ref st, .int (a1)]) X hw (va_runV (As := [.int (a1)]) (rest := []) (cfix X) (c_X8_skeinAt l G cy S _ st (a1) hFst) (cwV 1 X.2.2.2.1 gX11_piece_X8_skeinAt rfl rfl rfl (by decide +kernel) ⟨Nat.le_of_ble_eq_true rfl, Nat.le_of_ble_eq_true rfl⟩) (pre_V X hw _ hat_st (by decide) rfl) rfl rfl hl.1 rfl (lv_room (Nat.le_of_ble_eq_true rfl)) dX11_piece_5 ⟨Nat.le_of_ble_eq_true rfl, Nat.le_of_ble_eq_true rfl⟩) 0 0 (Nat.le_of_ble_eq_true rfl) (Nat.le_of_ble_eq_true rfl) (fun rr_5 S2 H locs hp hw hfr hnw => ?_)
  obtain ⟨e2_5, er_5⟩ := hp
  subst e2_5
  subst er_5
  refine W.eq (g2 := F0 m 8 ls (.null :: [])) rfl ?_
  refine lv_astoreN (lv' := [(4, .null), (0, .ref x), (1, .int (a1)), (2, .int (a2)), (3, .int (a3))]) X.1 X.2.1 dX11_piece_8 hl (by decide) rfl (fun ls hl => ?_)
  refine lv_aloadN X.1 X.2.1 dX11_piece_10 (lv_at hl 0 rfl) ?_
  refine lv_ifnullN (tgt := 31) X.1 X.2.1 dX11_piece_12 (by decide) ?_
  refine lv_iconst (v := (-1)) X.1 X.2.1 dX11_piece_31 (by decide) ?_
  exact ret_i X hw hr hlocks (Nat.le_of_ble_eq_true rfl) (Nat.le_of_ble_eq_true rfl) rfl dX11_piece_32
set_option maxHeartbeats 4000000 in
set_option maxRecDepth 100000 in
theorem c_X11_grade (l : Launch) (G : va_G) (cy : Nat → ClassId) (S : PS) (sz : Nat) (x : Nat) (a1 : Int32) (a2 : Int32) (a3 : Int32) (hF : FX S x) : Ci l yX11_grade wsX11_grade ({ frames := 4, cells := 0, slots := 0, locals := 160 }) G cy S sz [.ref x, .int (a1), .int (a2), .int (a3)] (fun (r : Int32) (S9 : PS) => r = -1) := by
  refine ent_m (cc := cX11_grade) (maxL := 5) (ret := (some .int)) (by decide) rfl (Nat.le_of_ble_eq_true rfl) ?_
  intro p e s m below meth c ls X hr hlocks hin hw hl hsz
  subst hsz
  have X : Cx p c cX11_grade 5 s [.ref x, .int (a1), .int (a2), .int (a3)].toArray wsX11_grade RX11 m G cy (AS S s.heap.size) := X
  have hl : lv_has ls 5 [(0, .ref x), (1, .int (a1)), (2, .int (a2)), (3, .int (a3))] := hl
  have hF0 := hF
  obtain ⟨hat_x, ci_lots, ci_pots, ci_shv, ⟨cs, rf_cs, hat_cs, ln_cs⟩, ⟨lz, rf_lz, hat_lz, ln_lz⟩, ⟨ps, rf_ps, hat_ps, ln_ps⟩, ⟨tp, rf_tp, hat_tp, ci_tsz, ci_tfp, ⟨tb, rf_tb, hat_tb, ln_tb⟩⟩, ⟨st, rf_st, hat_st, ci_st, ⟨pr, rf_pr, hat_pr, ln_pr⟩, ⟨mx, rf_mx, hat_mx⟩⟩, ⟨dr, rf_dr, hat_dr, ci_dsz⟩, sh, rf_sh, hat_sh, ln_sh, hpl⟩ := hF
  have ci_800 := ci_st 800 (by decide)
  have ci_801 := ci_st 801 (by decide)
  have ci_802 := ci_st 802 (by decide)
  have ci_803 := ci_st 803 (by decide)
  have ci_804 := ci_st 804 (by decide)
  have ci_805 := ci_st 805 (by decide)
  have ci_806 := ci_st 806 (by decide)
  have hF := hF0
  have hFst : StF S st := by obtain ⟨-, -, -, -, -, -, -, -, ⟨t9, h8, h9⟩, -⟩ := hF; rw [h8] at rf_st; cases rf_st; exact h9
  refine lv_aload_n X.1 X.2.1 dX11_grade_0 rfl (lv_at hl 0 rfl) ?_
  refine r_getR (g := 1107) X hw hat_x 7 rf_st (by decide) rfl inn_X11_grade_11 (by decide) (X.2.2.2.1 (.fieldLink RX11 42 "SilkMill" "store" "LSilkMill$Store;") (by decide +kernel)) rfl (gv_1107 _ _) dX11_grade_1 ?_
  refine lv_iload_n X.1 X.2.1 dX11_grade_4 rfl (lv_at hl 1 rfl) ?_
  refine k_q (rm := { frames := 1, cells := 0, slots := 0, locals := 40 }) (av := [.ref st, .int (a1)]) X hw (va_runV (As := [.int (a1)]) (rest := []) (cfix X) (c_X8_skeinAt l G cy S _ st (a1) hFst) (cwV 1 X.2.2.2.1 gX11_grade_X8_skeinAt rfl rfl rfl (by decide +kernel) ⟨Nat.le_of_ble_eq_true rfl, Nat.le_of_ble_eq_true rfl⟩) (pre_V X hw _ hat_st (by decide) rfl) rfl rfl hl.1 rfl (lv_room (Nat.le_of_ble_eq_true rfl)) dX11_grade_5 ⟨Nat.le_of_ble_eq_true rfl, Nat.le_of_ble_eq_true rfl⟩) 0 0 (Nat.le_of_ble_eq_true rfl) (Nat.le_of_ble_eq_true rfl) (fun rr_5 S2 H locs hp hw hfr hnw => ?_)
  obtain ⟨e2_5, er_5⟩ := hp
  subst e2_5
  subst er_5
  refine W.eq (g2 := F0 m 8 ls (.null :: [])) rfl ?_
  refine lv_astoreN (lv' := [(4, .null), (0, .ref x), (1, .int (a1)), (2, .int (a2)), (3, .int (a3))]) X.1 X.2.1 dX11_grade_8 hl (by decide) rfl (fun ls hl => ?_)
  refine lv_aloadN X.1 X.2.1 dX11_grade_10 (lv_at hl 0 rfl) ?_
  refine lv_ifnullN (tgt := 36) X.1 X.2.1 dX11_grade_12 (by decide) ?_
  refine lv_iconst (v := (-1)) X.1 X.2.1 dX11_grade_36 (by decide) ?_
  exact ret_i X hw hr hlocks (Nat.le_of_ble_eq_true rfl) (Nat.le_of_ble_eq_true rfl) rfl dX11_grade_37
set_option maxHeartbeats 4000000 in
set_option maxRecDepth 100000 in
theorem c_X11_drawn (l : Launch) (G : va_G) (cy : Nat → ClassId) (S : PS) (sz : Nat) (x : Nat) (a1 : Int32) (hF : FX S x) : Ci l yX11_drawn wsX11_drawn ({ frames := 4, cells := 0, slots := 0, locals := 160 }) G cy S sz [.ref x, .int (a1)] (fun (r : Int32) (S9 : PS) => r = -1) := by
  refine ent_m (cc := cX11_drawn) (maxL := 2) (ret := (some .int)) (by decide) rfl (Nat.le_of_ble_eq_true rfl) ?_
  intro p e s m below meth c ls X hr hlocks hin hw hl hsz
  subst hsz
  have X : Cx p c cX11_drawn 2 s [.ref x, .int (a1)].toArray wsX11_drawn RX11 m G cy (AS S s.heap.size) := X
  have hl : lv_has ls 2 [(0, .ref x), (1, .int (a1))] := hl
  have hF0 := hF
  obtain ⟨hat_x, ci_lots, ci_pots, ci_shv, ⟨cs, rf_cs, hat_cs, ln_cs⟩, ⟨lz, rf_lz, hat_lz, ln_lz⟩, ⟨ps, rf_ps, hat_ps, ln_ps⟩, ⟨tp, rf_tp, hat_tp, ci_tsz, ci_tfp, ⟨tb, rf_tb, hat_tb, ln_tb⟩⟩, ⟨st, rf_st, hat_st, ci_st, ⟨pr, rf_pr, hat_pr, ln_pr⟩, ⟨mx, rf_mx, hat_mx⟩⟩, ⟨dr, rf_dr, hat_dr, ci_dsz⟩, sh, rf_sh, hat_sh, ln_sh, hpl⟩ := hF
  have hF := hF0
  refine lv_aload_n X.1 X.2.1 dX11_drawn_0 rfl (lv_at hl 0 rfl) ?_
  refine r_getR (g := 1108) X hw hat_x 8 rf_dr (by decide) rfl inn_X11_drawn_11 (by decide) (X.2.2.2.1 (.fieldLink RX11 49 "SilkMill" "latestDraw" "LSilkMill$Draw;") (by decide +kernel)) rfl (gv_1108 _ _) dX11_drawn_1 ?_
  refine r_get (v := .int 0) X hw hat_dr 1 (by decide) rfl inn_X11_drawn_1 (by decide) (X.2.2.2.1 (.fieldLink RX11 294 "SilkMill$Draw" "size" "I") (by decide +kernel)) rfl ((gv_101 _ _).trans (congrArg (fun z => some (Value.int z)) ci_dsz)) dX11_drawn_4 ?_
  refine lv_if_eq (tgt := 14) X.1 X.2.1 dX11_drawn_7 (by decide) (fun c_7 => ?_) (fun c_7 => absurd c_7 (by decide))
  refine lv_iconst (v := (-1)) X.1 X.2.1 dX11_drawn_14 (by decide) ?_
  exact ret_i X hw hr hlocks (Nat.le_of_ble_eq_true rfl) (Nat.le_of_ble_eq_true rfl) rfl dX11_drawn_15
set_option maxHeartbeats 4000000 in
set_option maxRecDepth 100000 in
theorem c_X11_mixed (l : Launch) (G : va_G) (cy : Nat → ClassId) (S : PS) (sz : Nat) (x : Nat) (a1 : Int32) (hF : FX S x) : Ci l yX11_mixed wsX11_mixed ({ frames := 4, cells := 0, slots := 0, locals := 160 }) G cy S sz [.ref x, .int (a1)] (fun (r : Int32) (S9 : PS) => r = 0) := by
  refine ent_m (cc := cX11_mixed) (maxL := 3) (ret := (some .boolean)) (by decide) rfl (Nat.le_of_ble_eq_true rfl) ?_
  intro p e s m below meth c ls X hr hlocks hin hw hl hsz
  subst hsz
  have X : Cx p c cX11_mixed 3 s [.ref x, .int (a1)].toArray wsX11_mixed RX11 m G cy (AS S s.heap.size) := X
  have hl : lv_has ls 3 [(0, .ref x), (1, .int (a1))] := hl
  have hF0 := hF
  obtain ⟨hat_x, ci_lots, ci_pots, ci_shv, ⟨cs, rf_cs, hat_cs, ln_cs⟩, ⟨lz, rf_lz, hat_lz, ln_lz⟩, ⟨ps, rf_ps, hat_ps, ln_ps⟩, ⟨tp, rf_tp, hat_tp, ci_tsz, ci_tfp, ⟨tb, rf_tb, hat_tb, ln_tb⟩⟩, ⟨st, rf_st, hat_st, ci_st, ⟨pr, rf_pr, hat_pr, ln_pr⟩, ⟨mx, rf_mx, hat_mx⟩⟩, ⟨dr, rf_dr, hat_dr, ci_dsz⟩, sh, rf_sh, hat_sh, ln_sh, hpl⟩ := hF
  have ci_800 := ci_st 800 (by decide)
  have ci_801 := ci_st 801 (by decide)
  have ci_802 := ci_st 802 (by decide)
  have ci_803 := ci_st 803 (by decide)
  have ci_804 := ci_st 804 (by decide)
  have ci_805 := ci_st 805 (by decide)
  have ci_806 := ci_st 806 (by decide)
  have hF := hF0
  have hFst : StF S st := by obtain ⟨-, -, -, -, -, -, -, -, ⟨t9, h8, h9⟩, -⟩ := hF; rw [h8] at rf_st; cases rf_st; exact h9
  refine lv_aload_n X.1 X.2.1 dX11_mixed_0 rfl (lv_at hl 0 rfl) ?_
  refine r_getR (g := 1107) X hw hat_x 7 rf_st (by decide) rfl inn_X11_mixed_11 (by decide) (X.2.2.2.1 (.fieldLink RX11 42 "SilkMill" "store" "LSilkMill$Store;") (by decide +kernel)) rfl (gv_1107 _ _) dX11_mixed_1 ?_
  refine lv_iload_n X.1 X.2.1 dX11_mixed_4 rfl (lv_at hl 1 rfl) ?_
  refine k_q (rm := { frames := 1, cells := 0, slots := 0, locals := 40 }) (av := [.ref st, .int (a1)]) X hw (va_runV (As := [.int (a1)]) (rest := []) (cfix X) (c_X8_skeinAt l G cy S _ st (a1) hFst) (cwV 1 X.2.2.2.1 gX11_mixed_X8_skeinAt rfl rfl rfl (by decide +kernel) ⟨Nat.le_of_ble_eq_true rfl, Nat.le_of_ble_eq_true rfl⟩) (pre_V X hw _ hat_st (by decide) rfl) rfl rfl hl.1 rfl (lv_room (Nat.le_of_ble_eq_true rfl)) dX11_mixed_5 ⟨Nat.le_of_ble_eq_true rfl, Nat.le_of_ble_eq_true rfl⟩) 0 0 (Nat.le_of_ble_eq_true rfl) (Nat.le_of_ble_eq_true rfl) (fun rr_5 S2 H locs hp hw hfr hnw => ?_)
  obtain ⟨e2_5, er_5⟩ := hp
  subst e2_5
  subst er_5
  refine W.eq (g2 := F0 m 8 ls (.null :: [])) rfl ?_
  refine lv_astore_nN (lv' := [(2, .null), (0, .ref x), (1, .int (a1))]) X.1 X.2.1 dX11_mixed_8 rfl hl (by decide) rfl (fun ls hl => ?_)
  refine lv_aload_nN X.1 X.2.1 dX11_mixed_9 rfl (lv_at hl 0 rfl) ?_
  refine lv_ifnullN (tgt := 24) X.1 X.2.1 dX11_mixed_10 (by decide) ?_
  refine lv_iconst (v := 0) X.1 X.2.1 dX11_mixed_24 (by decide) ?_
  exact ret_z X hw hr hlocks (Nat.le_of_ble_eq_true rfl) (Nat.le_of_ble_eq_true rfl) (by decide) rfl dX11_mixed_25
set_option maxHeartbeats 4000000 in
set_option maxRecDepth 100000 in
theorem c_X11_fault (l : Launch) (G : va_G) (cy : Nat → ClassId) (S : PS) (sz : Nat) (x : Nat) (a1 : Int32) (a2 : Int32) (hF : FX S x) : Ci l yX11_fault wsX11_fault ({ frames := 4, cells := 0, slots := 0, locals := 160 }) G cy S sz [.ref x, .int (a1), .int (a2)] (fun (r : Int32) (S9 : PS) => r = 0) := by
  refine ent_m (cc := cX11_fault) (maxL := 3) (ret := (some .boolean)) (by decide) rfl (Nat.le_of_ble_eq_true rfl) ?_
  intro p e s m below meth c ls X hr hlocks hin hw hl hsz
  subst hsz
  have X : Cx p c cX11_fault 3 s [.ref x, .int (a1), .int (a2)].toArray wsX11_fault RX11 m G cy (AS S s.heap.size) := X
  have hl : lv_has ls 3 [(0, .ref x), (1, .int (a1)), (2, .int (a2))] := hl
  have hF0 := hF
  obtain ⟨hat_x, ci_lots, ci_pots, ci_shv, ⟨cs, rf_cs, hat_cs, ln_cs⟩, ⟨lz, rf_lz, hat_lz, ln_lz⟩, ⟨ps, rf_ps, hat_ps, ln_ps⟩, ⟨tp, rf_tp, hat_tp, ci_tsz, ci_tfp, ⟨tb, rf_tb, hat_tb, ln_tb⟩⟩, ⟨st, rf_st, hat_st, ci_st, ⟨pr, rf_pr, hat_pr, ln_pr⟩, ⟨mx, rf_mx, hat_mx⟩⟩, ⟨dr, rf_dr, hat_dr, ci_dsz⟩, sh, rf_sh, hat_sh, ln_sh, hpl⟩ := hF
  have ci_800 := ci_st 800 (by decide)
  have ci_801 := ci_st 801 (by decide)
  have ci_802 := ci_st 802 (by decide)
  have ci_803 := ci_st 803 (by decide)
  have ci_804 := ci_st 804 (by decide)
  have ci_805 := ci_st 805 (by decide)
  have ci_806 := ci_st 806 (by decide)
  have hF := hF0
  have hFst : StF S st := by obtain ⟨-, -, -, -, -, -, -, -, ⟨t9, h8, h9⟩, -⟩ := hF; rw [h8] at rf_st; cases rf_st; exact h9
  refine lv_aload_n X.1 X.2.1 dX11_fault_0 rfl (lv_at hl 0 rfl) ?_
  refine r_getR (g := 1107) X hw hat_x 7 rf_st (by decide) rfl inn_X11_fault_11 (by decide) (X.2.2.2.1 (.fieldLink RX11 42 "SilkMill" "store" "LSilkMill$Store;") (by decide +kernel)) rfl (gv_1107 _ _) dX11_fault_1 ?_
  refine lv_iload_n X.1 X.2.1 dX11_fault_4 rfl (lv_at hl 1 rfl) ?_
  refine k_q (rm := { frames := 1, cells := 0, slots := 0, locals := 40 }) (av := [.ref st, .int (a1)]) X hw (va_runV (As := [.int (a1)]) (rest := []) (cfix X) (c_X8_skeinAt l G cy S _ st (a1) hFst) (cwV 1 X.2.2.2.1 gX11_fault_X8_skeinAt rfl rfl rfl (by decide +kernel) ⟨Nat.le_of_ble_eq_true rfl, Nat.le_of_ble_eq_true rfl⟩) (pre_V X hw _ hat_st (by decide) rfl) rfl rfl hl.1 rfl (lv_room (Nat.le_of_ble_eq_true rfl)) dX11_fault_5 ⟨Nat.le_of_ble_eq_true rfl, Nat.le_of_ble_eq_true rfl⟩) 0 0 (Nat.le_of_ble_eq_true rfl) (Nat.le_of_ble_eq_true rfl) (fun rr_5 S2 H locs hp hw hfr hnw => ?_)
  obtain ⟨e2_5, er_5⟩ := hp
  subst e2_5
  subst er_5
  refine W.eq (g2 := F0 m 8 ls (.null :: [])) rfl ?_
  refine lv_ifnullN (tgt := 38) X.1 X.2.1 dX11_fault_8 (by decide) ?_
  refine lv_iconst (v := 0) X.1 X.2.1 dX11_fault_38 (by decide) ?_
  exact ret_z X hw hr hlocks (Nat.le_of_ble_eq_true rfl) (Nat.le_of_ble_eq_true rfl) (by decide) rfl dX11_fault_39
set_option maxHeartbeats 4000000 in
set_option maxRecDepth 100000 in
theorem c_X11_pay (l : Launch) (G : va_G) (cy : Nat → ClassId) (S : PS) (sz : Nat) (x : Nat) (a1 : Int32) (a2 : Int32) (a3 : Int32) (hF : FX S x) : Ci l yX11_pay wsX11_pay ({ frames := 4, cells := 0, slots := 0, locals := 160 }) G cy S sz [.ref x, .int (a1), .int (a2), .int (a3)] (fun (r : Int32) (S9 : PS) => r = 0) := by
  refine ent_m (cc := cX11_pay) (maxL := 4) (ret := (some .int)) (by decide) rfl (Nat.le_of_ble_eq_true rfl) ?_
  intro p e s m below meth c ls X hr hlocks hin hw hl hsz
  subst hsz
  have X : Cx p c cX11_pay 4 s [.ref x, .int (a1), .int (a2), .int (a3)].toArray wsX11_pay RX11 m G cy (AS S s.heap.size) := X
  have hl : lv_has ls 4 [(0, .ref x), (1, .int (a1)), (2, .int (a2)), (3, .int (a3))] := hl
  have hF0 := hF
  obtain ⟨hat_x, ci_lots, ci_pots, ci_shv, ⟨cs, rf_cs, hat_cs, ln_cs⟩, ⟨lz, rf_lz, hat_lz, ln_lz⟩, ⟨ps, rf_ps, hat_ps, ln_ps⟩, ⟨tp, rf_tp, hat_tp, ci_tsz, ci_tfp, ⟨tb, rf_tb, hat_tb, ln_tb⟩⟩, ⟨st, rf_st, hat_st, ci_st, ⟨pr, rf_pr, hat_pr, ln_pr⟩, ⟨mx, rf_mx, hat_mx⟩⟩, ⟨dr, rf_dr, hat_dr, ci_dsz⟩, sh, rf_sh, hat_sh, ln_sh, hpl⟩ := hF
  have ci_800 := ci_st 800 (by decide)
  have ci_801 := ci_st 801 (by decide)
  have ci_802 := ci_st 802 (by decide)
  have ci_803 := ci_st 803 (by decide)
  have ci_804 := ci_st 804 (by decide)
  have ci_805 := ci_st 805 (by decide)
  have ci_806 := ci_st 806 (by decide)
  have hF := hF0
  have hFst : StF S st := by obtain ⟨-, -, -, -, -, -, -, -, ⟨t9, h8, h9⟩, -⟩ := hF; rw [h8] at rf_st; cases rf_st; exact h9
  refine lv_aload_n X.1 X.2.1 dX11_pay_0 rfl (lv_at hl 0 rfl) ?_
  refine lv_iload_n X.1 X.2.1 dX11_pay_1 rfl (lv_at hl 1 rfl) ?_
  refine k_q (rm := { frames := 1, cells := 0, slots := 0, locals := 40 }) (av := [.ref x, .int (a1)]) X hw (va_runV (As := [.int (a1)]) (rest := []) (cfix X) (c_X11_potAt l G cy S _ x (a1) hF) (cwV 1 X.2.2.2.1 gX11_pay_X11_potAt rfl rfl rfl (by decide +kernel) ⟨Nat.le_of_ble_eq_true rfl, Nat.le_of_ble_eq_true rfl⟩) (pre_V X hw _ hat_x (by decide) rfl) rfl rfl hl.1 rfl (lv_room (Nat.le_of_ble_eq_true rfl)) dX11_pay_2 ⟨Nat.le_of_ble_eq_true rfl, Nat.le_of_ble_eq_true rfl⟩) 0 0 (Nat.le_of_ble_eq_true rfl) (Nat.le_of_ble_eq_true rfl) (fun rr_2 S2 H locs hp hw hfr hnw => ?_)
  obtain ⟨e2_2, er_2⟩ := hp
  subst e2_2
  subst er_2
  refine W.eq (g2 := F0 m 5 ls (.null :: [])) rfl ?_
  refine lv_ifnullN (tgt := 38) X.1 X.2.1 dX11_pay_5 (by decide) ?_
  refine lv_iconst (v := 0) X.1 X.2.1 dX11_pay_38 (by decide) ?_
  exact ret_i X hw hr hlocks (Nat.le_of_ble_eq_true rfl) (Nat.le_of_ble_eq_true rfl) rfl dX11_pay_39
set_option maxHeartbeats 4000000 in
set_option maxRecDepth 100000 in
theorem c_X11_day (l : Launch) (G : va_G) (cy : Nat → ClassId) (S : PS) (sz : Nat) (x : Nat) (hF : FX S x) : Ci l yX11_day wsX11_day ({ frames := 4, cells := 0, slots := 0, locals := 160 }) G cy S sz [.ref x] (fun (r : Int32) (S9 : PS) => r = 1) := by
  refine ent_m (cc := cX11_day) (maxL := 1) (ret := (some .int)) (by decide) rfl (Nat.le_of_ble_eq_true rfl) ?_
  intro p e s m below meth c ls X hr hlocks hin hw hl hsz
  subst hsz
  have X : Cx p c cX11_day 1 s [.ref x].toArray wsX11_day RX11 m G cy (AS S s.heap.size) := X
  have hl : lv_has ls 1 [(0, .ref x)] := hl
  have hF0 := hF
  obtain ⟨hat_x, ci_lots, ci_pots, ci_shv, ⟨cs, rf_cs, hat_cs, ln_cs⟩, ⟨lz, rf_lz, hat_lz, ln_lz⟩, ⟨ps, rf_ps, hat_ps, ln_ps⟩, ⟨tp, rf_tp, hat_tp, ci_tsz, ci_tfp, ⟨tb, rf_tb, hat_tb, ln_tb⟩⟩, ⟨st, rf_st, hat_st, ci_st, ⟨pr, rf_pr, hat_pr, ln_pr⟩, ⟨mx, rf_mx, hat_mx⟩⟩, ⟨dr, rf_dr, hat_dr, ci_dsz⟩, sh, rf_sh, hat_sh, ln_sh, hpl⟩ := hF
  have ci_800 := ci_st 800 (by decide)
  have ci_801 := ci_st 801 (by decide)
  have ci_802 := ci_st 802 (by decide)
  have ci_803 := ci_st 803 (by decide)
  have ci_804 := ci_st 804 (by decide)
  have ci_805 := ci_st 805 (by decide)
  have ci_806 := ci_st 806 (by decide)
  have hF := hF0
  have hFst : StF S st := by obtain ⟨-, -, -, -, -, -, -, -, ⟨t9, h8, h9⟩, -⟩ := hF; rw [h8] at rf_st; cases rf_st; exact h9
  refine lv_aload_n X.1 X.2.1 dX11_day_0 rfl (lv_at hl 0 rfl) ?_
  refine r_getR (g := 1107) X hw hat_x 7 rf_st (by decide) rfl inn_X11_day_11 (by decide) (X.2.2.2.1 (.fieldLink RX11 42 "SilkMill" "store" "LSilkMill$Store;") (by decide +kernel)) rfl (gv_1107 _ _) dX11_day_1 ?_
  refine lv_dup X.1 X.2.1 dX11_day_4 rfl ?_
  refine r_get (v := .int 0) X hw hat_st 1 (by decide) rfl inn_X11_day_8 (by decide) (X.2.2.2.1 (.fieldLink RX11 349 "SilkMill$Store" "today" "I") (by decide +kernel)) rfl ((gv_801 _ _).trans (congrArg (fun z => some (Value.int z)) ci_801)) dX11_day_5 ?_
  refine lv_iconst (v := 1) X.1 X.2.1 dX11_day_8 (by decide) ?_
  refine lv_iadd X.1 X.2.1 dX11_day_9 ?_
  refine lv_topi (fun v_1 ev_1 => ?_)
  obtain rfl : v_1 = 1 := ev_1.trans (by decide +kernel)
  refine r_putI (v := 1) X hw hat_st 1 801 tyX8 (by decide) rfl inn_X11_day_8 tyX8_ok nmX8 (by decide) (X.2.2.2.1 (.fieldLink RX11 349 "SilkMill$Store" "today" "I") (by decide +kernel)) rfl (Or.inl rfl) rfl rfl (Nat.le_of_ble_eq_true rfl) (st_801 _ _) dX11_day_10 (fun H locs hw => ?_)
  generalize eS_2 : sI S 801 st 1 = S_2 at hw
  have hat_x : At S_2 x 11 := by rw [← eS_2]; exact At_sI hat_x
  have hat_st : At S_2 st 8 := by rw [← eS_2]; exact At_sI hat_st
  have rf_st : pR S_2 1107 x = some st := by rw [← eS_2, pR_sI]; exact rf_st
  have ci_lots : pI S_2 1102 x = 0 := by rw [← eS_2]; exact (pI_sI_nf (by decide)).trans ci_lots
  have ci_pots : pI S_2 1104 x = 0 := by rw [← eS_2]; exact (pI_sI_nf (by decide)).trans ci_pots
  have ci_shv : pI S_2 1110 x = 0 := by rw [← eS_2]; exact (pI_sI_nf (by decide)).trans ci_shv
  have ci_800 : pI S_2 800 st = 0 := by rw [← eS_2]; exact (pI_sI_nf (by decide)).trans ci_800
  have ci_802 : pI S_2 802 st = 0 := by rw [← eS_2]; exact (pI_sI_nf (by decide)).trans ci_802
  have ci_803 : pI S_2 803 st = 0 := by rw [← eS_2]; exact (pI_sI_nf (by decide)).trans ci_803
  have ci_804 : pI S_2 804 st = 0 := by rw [← eS_2]; exact (pI_sI_nf (by decide)).trans ci_804
  have ci_805 : pI S_2 805 st = 0 := by rw [← eS_2]; exact (pI_sI_nf (by decide)).trans ci_805
  have ci_806 : pI S_2 806 st = 0 := by rw [← eS_2]; exact (pI_sI_nf (by decide)).trans ci_806
  have hc_3 : pI S_2 801 st = 1 := by rw [← eS_2]; exact pI_sI_same
  refine lv_aload_n X.1 X.2.1 dX11_day_13 rfl (lv_at hl 0 rfl) ?_
  refine r_getR (g := 1107) X hw hat_x 7 rf_st (by decide) rfl inn_X11_day_11 (by decide) (X.2.2.2.1 (.fieldLink RX11 42 "SilkMill" "store" "LSilkMill$Store;") (by decide +kernel)) rfl (gv_1107 _ _) dX11_day_14 ?_
  refine r_get (v := .int 1) X hw hat_st 1 (by decide) rfl inn_X11_day_8 (by decide) (X.2.2.2.1 (.fieldLink RX11 349 "SilkMill$Store" "today" "I") (by decide +kernel)) rfl ((gv_801 _ _).trans (congrArg (fun z => some (Value.int z)) hc_3)) dX11_day_17 ?_
  exact ret_i X hw hr hlocks (Nat.le_of_ble_eq_true rfl) (Nat.le_of_ble_eq_true rfl) rfl dX11_day_20
end
section
set_option maxRecDepth 20000 in
theorem ggX12_isCocoon_X12_within : GoodIn wsX12_isCocoon wsX12_within := goodIn_r _ [6] (by decide +kernel) (by decide +kernel)
set_option maxRecDepth 20000 in
theorem gX12_isCocoon_X12_within : GoodIn wsX12_isCocoon (va_wsS RX12 168 yX12_within wsX12_within) := goodIn_app (goodIn_of _ (by decide +kernel)) ggX12_isCocoon_X12_within
theorem dX12_isCocoon_0 : decode cX12_isCocoon 0 = .ok (.iload_n 1, 1) := by decide +kernel
theorem dX12_isCocoon_1 : decode cX12_isCocoon 1 = .ok (.iconst 0, 1) := by decide +kernel
theorem dX12_isCocoon_2 : decode cX12_isCocoon 2 = .ok (.aload_n 0, 1) := by decide +kernel
theorem dX12_isCocoon_3 : decode cX12_isCocoon 3 = .ok (.getfield 165, 3) := by decide +kernel
theorem dX12_isCocoon_6 : decode cX12_isCocoon 6 = .ok (.iconst 1, 1) := by decide +kernel
theorem dX12_isCocoon_7 : decode cX12_isCocoon 7 = .ok (.isub, 1) := by decide +kernel
theorem dX12_isCocoon_8 : decode cX12_isCocoon 8 = .ok (.invokestatic 168, 3) := by decide +kernel
theorem dX12_isCocoon_11 : decode cX12_isCocoon 11 = .ok (.ifCond .eq 23, 3) := by decide +kernel
theorem dX12_isCocoon_34 : decode cX12_isCocoon 34 = .ok (.iconst 0, 1) := by decide +kernel
theorem dX12_isCocoon_35 : decode cX12_isCocoon 35 = .ok (.ireturn, 1) := by decide +kernel
set_option maxRecDepth 20000 in
theorem ggX12_cocoon_X12_isCocoon : GoodIn wsX12_cocoon wsX12_isCocoon := goodIn_r _ [9, 10, 11, 12, 13, 8, 14, 38, 39, 40, 41, 42, 43, 44, 45, 46, 47, 48, 49, 50, 51, 52, 53, 54, 55, 56, 57, 58, 59, 60, 61, 62, 63, 64, 65, 66, 67, 68, 69, 70, 71, 72, 73, 74, 75, 76, 77, 78, 79, 80, 81, 82, 83, 84, 85, 86, 87, 88, 89, 90, 91, 92, 93, 94, 95, 96, 97, 98, 99, 100, 101, 102, 103] (by decide +kernel) (by decide +kernel)
set_option maxRecDepth 20000 in
theorem gX12_cocoon_X12_isCocoon : GoodIn wsX12_cocoon (wsV RX12 186 RX12 yX12_isCocoon wsX12_isCocoon) := goodIn_app (goodIn_of _ (by decide +kernel)) ggX12_cocoon_X12_isCocoon
theorem dX12_cocoon_0 : decode cX12_cocoon 0 = .ok (.aload_n 0, 1) := by decide +kernel
theorem dX12_cocoon_1 : decode cX12_cocoon 1 = .ok (.iconst 0, 1) := by decide +kernel
theorem dX12_cocoon_2 : decode cX12_cocoon 2 = .ok (.putfield 161, 3) := by decide +kernel
theorem dX12_cocoon_5 : decode cX12_cocoon 5 = .ok (.aload_n 0, 1) := by decide +kernel
theorem dX12_cocoon_6 : decode cX12_cocoon 6 = .ok (.iload_n 1, 1) := by decide +kernel
theorem dX12_cocoon_7 : decode cX12_cocoon 7 = .ok (.iload_n 2, 1) := by decide +kernel
theorem dX12_cocoon_8 : decode cX12_cocoon 8 = .ok (.invokevirtual 186, 3) := by decide +kernel
theorem dX12_cocoon_11 : decode cX12_cocoon 11 = .ok (.ifCond .ne 5, 3) := by decide +kernel
theorem dX12_cocoon_14 : decode cX12_cocoon 14 = .ok (.iconst (-1), 1) := by decide +kernel
theorem dX12_cocoon_15 : decode cX12_cocoon 15 = .ok (.ireturn, 1) := by decide +kernel
set_option maxRecDepth 20000 in
theorem ggX12_fineness_X12_isCocoon : GoodIn wsX12_fineness wsX12_isCocoon := goodIn_r _ [6, 7, 8, 9, 10, 5, 11, 31, 32, 33, 34, 35, 36, 37, 38, 39, 40, 41, 42, 43, 44, 45, 46, 47, 48, 49, 50, 51, 52, 53, 54, 55, 56, 57, 58, 59, 60, 61, 62, 63, 64, 65, 66, 67, 68, 69, 70, 71, 72, 73, 74, 75, 76, 77, 78, 79, 80, 81, 82, 83, 84, 85, 86, 87, 88, 89, 90, 91, 92, 93, 94, 95, 96] (by decide +kernel) (by decide +kernel)
set_option maxRecDepth 20000 in
theorem gX12_fineness_X12_isCocoon : GoodIn wsX12_fineness (wsV RX12 186 RX12 yX12_isCocoon wsX12_isCocoon) := goodIn_app (goodIn_of _ (by decide +kernel)) ggX12_fineness_X12_isCocoon
theorem dX12_fineness_0 : decode cX12_fineness 0 = .ok (.aload_n 0, 1) := by decide +kernel
theorem dX12_fineness_1 : decode cX12_fineness 1 = .ok (.iload_n 1, 1) := by decide +kernel
theorem dX12_fineness_2 : decode cX12_fineness 2 = .ok (.iload_n 2, 1) := by decide +kernel
theorem dX12_fineness_3 : decode cX12_fineness 3 = .ok (.invokevirtual 186, 3) := by decide +kernel
theorem dX12_fineness_6 : decode cX12_fineness 6 = .ok (.ifCond .eq 27, 3) := by decide +kernel
theorem dX12_fineness_33 : decode cX12_fineness 33 = .ok (.iconst 0, 1) := by decide +kernel
theorem dX12_fineness_34 : decode cX12_fineness 34 = .ok (.istore 4, 2) := by decide +kernel
theorem dX12_fineness_36 : decode cX12_fineness 36 = .ok (.aload_n 0, 1) := by decide +kernel
theorem dX12_fineness_37 : decode cX12_fineness 37 = .ok (.iload 4, 2) := by decide +kernel
theorem dX12_fineness_39 : decode cX12_fineness 39 = .ok (.ifCond .eq 7, 3) := by decide +kernel
theorem dX12_fineness_46 : decode cX12_fineness 46 = .ok (.iconst 1, 1) := by decide +kernel
theorem dX12_fineness_47 : decode cX12_fineness 47 = .ok (.putfield 161, 3) := by decide +kernel
theorem dX12_fineness_50 : decode cX12_fineness 50 = .ok (.iload 4, 2) := by decide +kernel
theorem dX12_fineness_52 : decode cX12_fineness 52 = .ok (.ifCond .eq 17, 3) := by decide +kernel
theorem dX12_fineness_69 : decode cX12_fineness 69 = .ok (.iconst 0, 1) := by decide +kernel
theorem dX12_fineness_70 : decode cX12_fineness 70 = .ok (.ireturn, 1) := by decide +kernel
set_option maxRecDepth 20000 in
theorem ggX12_test_X12_within : GoodIn wsX12_test wsX12_within := goodIn_r _ [9] (by decide +kernel) (by decide +kernel)
set_option maxRecDepth 20000 in
theorem gX12_test_X12_within : GoodIn wsX12_test (va_wsS RX12 168 yX12_within wsX12_within) := goodIn_app (goodIn_of _ (by decide +kernel)) ggX12_test_X12_within
theorem dX12_test_0 : decode cX12_test 0 = .ok (.aload_n 0, 1) := by decide +kernel
theorem dX12_test_1 : decode cX12_test 1 = .ok (.iconst 0, 1) := by decide +kernel
theorem dX12_test_2 : decode cX12_test 2 = .ok (.putfield 161, 3) := by decide +kernel
theorem dX12_test_5 : decode cX12_test 5 = .ok (.iload_n 1, 1) := by decide +kernel
theorem dX12_test_6 : decode cX12_test 6 = .ok (.iconst 0, 1) := by decide +kernel
theorem dX12_test_7 : decode cX12_test 7 = .ok (.aload_n 0, 1) := by decide +kernel
theorem dX12_test_8 : decode cX12_test 8 = .ok (.getfield 165, 3) := by decide +kernel
theorem dX12_test_11 : decode cX12_test 11 = .ok (.iconst 1, 1) := by decide +kernel
theorem dX12_test_12 : decode cX12_test 12 = .ok (.isub, 1) := by decide +kernel
theorem dX12_test_13 : decode cX12_test 13 = .ok (.invokestatic 168, 3) := by decide +kernel
theorem dX12_test_16 : decode cX12_test 16 = .ok (.ifCond .ne 5, 3) := by decide +kernel
theorem dX12_test_19 : decode cX12_test 19 = .ok (.iconst (-1), 1) := by decide +kernel
theorem dX12_test_20 : decode cX12_test 20 = .ok (.ireturn, 1) := by decide +kernel
set_option maxRecDepth 20000 in
theorem ggX12_isPot_X12_within : GoodIn wsX12_isPot wsX12_within := goodIn_r _ [5] (by decide +kernel) (by decide +kernel)
set_option maxRecDepth 20000 in
theorem gX12_isPot_X12_within : GoodIn wsX12_isPot (va_wsS RX12 168 yX12_within wsX12_within) := goodIn_app (goodIn_of _ (by decide +kernel)) ggX12_isPot_X12_within
theorem dX12_isPot_0 : decode cX12_isPot 0 = .ok (.iload_n 1, 1) := by decide +kernel
theorem dX12_isPot_1 : decode cX12_isPot 1 = .ok (.iconst 0, 1) := by decide +kernel
theorem dX12_isPot_2 : decode cX12_isPot 2 = .ok (.aload_n 0, 1) := by decide +kernel
theorem dX12_isPot_3 : decode cX12_isPot 3 = .ok (.getfield 197, 3) := by decide +kernel
theorem dX12_isPot_6 : decode cX12_isPot 6 = .ok (.iconst 1, 1) := by decide +kernel
theorem dX12_isPot_7 : decode cX12_isPot 7 = .ok (.isub, 1) := by decide +kernel
theorem dX12_isPot_8 : decode cX12_isPot 8 = .ok (.invokestatic 168, 3) := by decide +kernel
theorem dX12_isPot_11 : decode cX12_isPot 11 = .ok (.ireturn, 1) := by decide +kernel
set_option maxRecDepth 20000 in
theorem ggX12_target_X12_isPot : GoodIn wsX12_target wsX12_isPot := goodIn_r _ [7, 8, 9, 10, 6, 11, 12, 13, 14, 15, 16, 17, 18, 19, 20, 21, 22, 23, 24, 25, 26, 27, 28, 29, 30, 31, 32, 33, 34, 35, 36, 37, 38, 39, 40, 41, 42, 43, 44, 45, 46, 47, 48, 49, 50, 51, 52, 53, 54, 55, 56, 57, 58, 59, 60, 61, 62, 63, 64, 65, 66, 67, 68, 69, 70, 71, 72, 73, 74, 75, 76, 77] (by decide +kernel) (by decide +kernel)
set_option maxRecDepth 20000 in
theorem gX12_target_X12_isPot : GoodIn wsX12_target (wsV RX12 200 RX12 yX12_isPot wsX12_isPot) := goodIn_app (goodIn_of _ (by decide +kernel)) ggX12_target_X12_isPot
theorem dX12_target_0 : decode cX12_target 0 = .ok (.aload_n 0, 1) := by decide +kernel
theorem dX12_target_1 : decode cX12_target 1 = .ok (.iconst 0, 1) := by decide +kernel
theorem dX12_target_2 : decode cX12_target 2 = .ok (.putfield 161, 3) := by decide +kernel
theorem dX12_target_5 : decode cX12_target 5 = .ok (.aload_n 0, 1) := by decide +kernel
theorem dX12_target_6 : decode cX12_target 6 = .ok (.iload_n 1, 1) := by decide +kernel
theorem dX12_target_7 : decode cX12_target 7 = .ok (.invokevirtual 200, 3) := by decide +kernel
theorem dX12_target_10 : decode cX12_target 10 = .ok (.ifCond .eq 15, 3) := by decide +kernel
theorem dX12_target_25 : decode cX12_target 25 = .ok (.iconst 0, 1) := by decide +kernel
theorem dX12_target_26 : decode cX12_target 26 = .ok (.ireturn, 1) := by decide +kernel
set_option maxRecDepth 20000 in
theorem ggX12_fill_X12_isPot : GoodIn wsX12_fill wsX12_isPot := goodIn_r _ [9, 10, 11, 12, 8, 13, 25, 26, 27, 28, 29, 30, 31, 32, 33, 34, 35, 36, 37, 38, 39, 40, 41, 42, 43, 44, 45, 46, 47, 48, 49, 50, 51, 52, 53, 54, 55, 56, 57, 58, 59, 60, 61, 62, 63, 64, 65, 66, 67, 68, 69, 70, 71, 72, 73, 74, 75, 76, 77, 78, 79, 80, 81, 82, 83, 84, 85, 86, 87, 88, 89, 90] (by decide +kernel) (by decide +kernel)
set_option maxRecDepth 20000 in
theorem gX12_fill_X12_isPot : GoodIn wsX12_fill (wsV RX12 200 RX12 yX12_isPot wsX12_isPot) := goodIn_app (goodIn_of _ (by decide +kernel)) ggX12_fill_X12_isPot
theorem dX12_fill_0 : decode cX12_fill 0 = .ok (.aload_n 0, 1) := by decide +kernel
theorem dX12_fill_1 : decode cX12_fill 1 = .ok (.iconst 0, 1) := by decide +kernel
theorem dX12_fill_2 : decode cX12_fill 2 = .ok (.putfield 161, 3) := by decide +kernel
theorem dX12_fill_5 : decode cX12_fill 5 = .ok (.aload_n 0, 1) := by decide +kernel
theorem dX12_fill_6 : decode cX12_fill 6 = .ok (.iload_n 1, 1) := by decide +kernel
theorem dX12_fill_7 : decode cX12_fill 7 = .ok (.invokevirtual 200, 3) := by decide +kernel
theorem dX12_fill_10 : decode cX12_fill 10 = .ok (.ifCond .eq 45, 3) := by decide +kernel
theorem dX12_fill_55 : decode cX12_fill 55 = .ok (.iconst 0, 1) := by decide +kernel
theorem dX12_fill_56 : decode cX12_fill 56 = .ok (.ireturn, 1) := by decide +kernel
set_option maxRecDepth 20000 in
theorem ggX12_end_X12_within : GoodIn wsX12_end wsX12_within := goodIn_r _ [6] (by decide +kernel) (by decide +kernel)
set_option maxRecDepth 20000 in
theorem gX12_end_X12_within : GoodIn wsX12_end (va_wsS RX12 168 yX12_within wsX12_within) := goodIn_app (goodIn_of _ (by decide +kernel)) ggX12_end_X12_within
theorem dX12_end_0 : decode cX12_end 0 = .ok (.aload_n 0, 1) := by decide +kernel
theorem dX12_end_1 : decode cX12_end 1 = .ok (.iconst 0, 1) := by decide +kernel
theorem dX12_end_2 : decode cX12_end 2 = .ok (.putfield 161, 3) := by decide +kernel
theorem dX12_end_5 : decode cX12_end 5 = .ok (.iload_n 1, 1) := by decide +kernel
theorem dX12_end_6 : decode cX12_end 6 = .ok (.iconst 0, 1) := by decide +kernel
theorem dX12_end_7 : decode cX12_end 7 = .ok (.aload_n 0, 1) := by decide +kernel
theorem dX12_end_8 : decode cX12_end 8 = .ok (.getfield 211, 3) := by decide +kernel
theorem dX12_end_11 : decode cX12_end 11 = .ok (.invokestatic 168, 3) := by decide +kernel
theorem dX12_end_14 : decode cX12_end 14 = .ok (.ifCond .ne 5, 3) := by decide +kernel
theorem dX12_end_17 : decode cX12_end 17 = .ok (.iconst (-1), 1) := by decide +kernel
theorem dX12_end_18 : decode cX12_end 18 = .ok (.ireturn, 1) := by decide +kernel
theorem dX12_end_19 : decode cX12_end 19 = .ok (.aload_n 0, 1) := by decide +kernel
theorem dX12_end_20 : decode cX12_end 20 = .ok (.iload_n 1, 1) := by decide +kernel
theorem dX12_end_21 : decode cX12_end 21 = .ok (.putfield 211, 3) := by decide +kernel
theorem dX12_end_24 : decode cX12_end 24 = .ok (.iload_n 1, 1) := by decide +kernel
theorem dX12_end_25 : decode cX12_end 25 = .ok (.ireturn, 1) := by decide +kernel
set_option maxRecDepth 20000 in
theorem ggX12_program_X12_isPot : GoodIn wsX12_program wsX12_isPot := goodIn_r _ [18, 19, 20, 21, 17, 22, 111, 112, 113, 114, 115, 116, 117, 118, 119, 120, 121, 122, 123, 124, 125, 126, 127, 128, 129, 130, 131, 132, 133, 134, 135, 136, 137, 138, 139, 140, 141, 142, 143, 144, 145, 146, 147, 148, 149, 150, 151, 152, 153, 154, 155, 156, 157, 158, 159, 160, 161, 162, 163, 164, 165, 166, 167, 168, 169, 170, 171, 172, 173, 174, 175, 176] (by decide +kernel) (by decide +kernel)
set_option maxRecDepth 20000 in
theorem gX12_program_X12_isPot : GoodIn wsX12_program (wsV RX12 200 RX12 yX12_isPot wsX12_isPot) := goodIn_app (goodIn_of _ (by decide +kernel)) ggX12_program_X12_isPot
theorem dX12_program_0 : decode cX12_program 0 = .ok (.aload_n 0, 1) := by decide +kernel
theorem dX12_program_1 : decode cX12_program 1 = .ok (.iconst 0, 1) := by decide +kernel
theorem dX12_program_2 : decode cX12_program 2 = .ok (.putfield 161, 3) := by decide +kernel
theorem dX12_program_5 : decode cX12_program 5 = .ok (.aload_n 0, 1) := by decide +kernel
theorem dX12_program_6 : decode cX12_program 6 = .ok (.iload_n 1, 1) := by decide +kernel
theorem dX12_program_7 : decode cX12_program 7 = .ok (.invokevirtual 200, 3) := by decide +kernel
theorem dX12_program_10 : decode cX12_program 10 = .ok (.ifCond .ne 5, 3) := by decide +kernel
theorem dX12_program_13 : decode cX12_program 13 = .ok (.iconst (-1), 1) := by decide +kernel
theorem dX12_program_14 : decode cX12_program 14 = .ok (.ireturn, 1) := by decide +kernel
theorem dX12_place_0 : decode cX12_place 0 = .ok (.aload_n 0, 1) := by decide +kernel
theorem dX12_place_1 : decode cX12_place 1 = .ok (.iconst 0, 1) := by decide +kernel
theorem dX12_place_2 : decode cX12_place 2 = .ok (.putfield 161, 3) := by decide +kernel
theorem dX12_place_5 : decode cX12_place 5 = .ok (.aload_n 0, 1) := by decide +kernel
theorem dX12_place_6 : decode cX12_place 6 = .ok (.getfield 86, 3) := by decide +kernel
theorem dX12_place_9 : decode cX12_place 9 = .ok (.ireturn, 1) := by decide +kernel
set_option maxRecDepth 20000 in
theorem ggX12_cut_X12_isPot : GoodIn wsX12_cut wsX12_isPot := goodIn_r _ [6, 7, 8, 9, 5, 10, 59, 60, 61, 62, 63, 64, 65, 66, 67, 68, 69, 70, 71, 72, 73, 74, 75, 76, 77, 78, 79, 80, 81, 82, 83, 84, 85, 86, 87, 88, 89, 90, 91, 92, 93, 94, 95, 96, 97, 98, 99, 100, 101, 102, 103, 104, 105, 106, 107, 108, 109, 110, 111, 112, 113, 114, 115, 116, 117, 118, 119, 120, 121, 122, 123, 124] (by decide +kernel) (by decide +kernel)
set_option maxRecDepth 20000 in
theorem gX12_cut_X12_isPot : GoodIn wsX12_cut (wsV RX12 200 RX12 yX12_isPot wsX12_isPot) := goodIn_app (goodIn_of _ (by decide +kernel)) ggX12_cut_X12_isPot
theorem dX12_cut_0 : decode cX12_cut 0 = .ok (.aload_n 0, 1) := by decide +kernel
theorem dX12_cut_1 : decode cX12_cut 1 = .ok (.iconst 0, 1) := by decide +kernel
theorem dX12_cut_2 : decode cX12_cut 2 = .ok (.putfield 161, 3) := by decide +kernel
theorem dX12_cut_5 : decode cX12_cut 5 = .ok (.aload_n 0, 1) := by decide +kernel
theorem dX12_cut_6 : decode cX12_cut 6 = .ok (.iload_n 1, 1) := by decide +kernel
theorem dX12_cut_7 : decode cX12_cut 7 = .ok (.invokevirtual 200, 3) := by decide +kernel
theorem dX12_cut_10 : decode cX12_cut 10 = .ok (.ifCond .eq 11, 3) := by decide +kernel
theorem dX12_cut_21 : decode cX12_cut 21 = .ok (.iconst (-1), 1) := by decide +kernel
theorem dX12_cut_22 : decode cX12_cut 22 = .ok (.ireturn, 1) := by decide +kernel
set_option maxRecDepth 20000 in
theorem ggX12_run_X12_isPot : GoodIn wsX12_run wsX12_isPot := goodIn_r _ [6, 7, 8, 9, 5, 10, 122, 123, 124, 125, 126, 127, 128, 129, 130, 131, 132, 133, 134, 135, 136, 137, 138, 139, 140, 141, 142, 143, 144, 145, 146, 147, 148, 149, 150, 151, 152, 153, 154, 155, 156, 157, 158, 159, 160, 161, 162, 163, 164, 165, 166, 167, 168, 169, 170, 171, 172, 173, 174, 175, 176, 177, 178, 179, 180, 181, 182, 183, 184, 185, 186, 187] (by decide +kernel) (by decide +kernel)
set_option maxRecDepth 20000 in
theorem gX12_run_X12_isPot : GoodIn wsX12_run (wsV RX12 200 RX12 yX12_isPot wsX12_isPot) := goodIn_app (goodIn_of _ (by decide +kernel)) ggX12_run_X12_isPot
theorem dX12_run_0 : decode cX12_run 0 = .ok (.aload_n 0, 1) := by decide +kernel
theorem dX12_run_1 : decode cX12_run 1 = .ok (.iconst 0, 1) := by decide +kernel
theorem dX12_run_2 : decode cX12_run 2 = .ok (.putfield 161, 3) := by decide +kernel
theorem dX12_run_5 : decode cX12_run 5 = .ok (.aload_n 0, 1) := by decide +kernel
theorem dX12_run_6 : decode cX12_run 6 = .ok (.iload_n 1, 1) := by decide +kernel
theorem dX12_run_7 : decode cX12_run 7 = .ok (.invokevirtual 200, 3) := by decide +kernel
theorem dX12_run_10 : decode cX12_run 10 = .ok (.ifCond .eq 14, 3) := by decide +kernel
theorem dX12_run_24 : decode cX12_run 24 = .ok (.iconst (-1), 1) := by decide +kernel
theorem dX12_run_25 : decode cX12_run 25 = .ok (.ireturn, 1) := by decide +kernel
set_option maxRecDepth 20000 in
theorem ggX12_about_X12_isPot : GoodIn wsX12_about wsX12_isPot := goodIn_r _ [13, 14, 15, 16, 12, 17, 52, 53, 54, 55, 56, 57, 58, 59, 60, 61, 62, 63, 64, 65, 66, 67, 68, 69, 70, 71, 72, 73, 74, 75, 76, 77, 78, 79, 80, 81, 82, 83, 84, 85, 86, 87, 88, 89, 90, 91, 92, 93, 94, 95, 96, 97, 98, 99, 100, 101, 102, 103, 104, 105, 106, 107, 108, 109, 110, 111, 112, 113, 114, 115, 116, 117] (by decide +kernel) (by decide +kernel)
set_option maxRecDepth 20000 in
theorem gX12_about_X12_isPot : GoodIn wsX12_about (wsV RX12 200 RX12 yX12_isPot wsX12_isPot) := goodIn_app (goodIn_of _ (by decide +kernel)) ggX12_about_X12_isPot
theorem dX12_about_0 : decode cX12_about 0 = .ok (.aload_n 0, 1) := by decide +kernel
theorem dX12_about_1 : decode cX12_about 1 = .ok (.iconst 0, 1) := by decide +kernel
theorem dX12_about_2 : decode cX12_about 2 = .ok (.putfield 161, 3) := by decide +kernel
theorem dX12_about_5 : decode cX12_about 5 = .ok (.aload_n 0, 1) := by decide +kernel
theorem dX12_about_6 : decode cX12_about 6 = .ok (.iload_n 1, 1) := by decide +kernel
theorem dX12_about_7 : decode cX12_about 7 = .ok (.invokevirtual 200, 3) := by decide +kernel
theorem dX12_about_10 : decode cX12_about 10 = .ok (.ifCond .ne 5, 3) := by decide +kernel
theorem dX12_about_13 : decode cX12_about 13 = .ok (.iconst (-1), 1) := by decide +kernel
theorem dX12_about_14 : decode cX12_about 14 = .ok (.ireturn, 1) := by decide +kernel
set_option maxRecDepth 20000 in
theorem ggX12_in_X12_isPot : GoodIn wsX12_in wsX12_isPot := goodIn_r _ [6, 7, 8, 9, 5, 10, 21, 22, 23, 24, 25, 26, 27, 28, 29, 30, 31, 32, 33, 34, 35, 36, 37, 38, 39, 40, 41, 42, 43, 44, 45, 46, 47, 48, 49, 50, 51, 52, 53, 54, 55, 56, 57, 58, 59, 60, 61, 62, 63, 64, 65, 66, 67, 68, 69, 70, 71, 72, 73, 74, 75, 76, 77, 78, 79, 80, 81, 82, 83, 84, 85, 86] (by decide +kernel) (by decide +kernel)
set_option maxRecDepth 20000 in
theorem gX12_in_X12_isPot : GoodIn wsX12_in (wsV RX12 200 RX12 yX12_isPot wsX12_isPot) := goodIn_app (goodIn_of _ (by decide +kernel)) ggX12_in_X12_isPot
theorem dX12_in_0 : decode cX12_in 0 = .ok (.aload_n 0, 1) := by decide +kernel
theorem dX12_in_1 : decode cX12_in 1 = .ok (.iload_n 1, 1) := by decide +kernel
theorem dX12_in_2 : decode cX12_in 2 = .ok (.invokevirtual 200, 3) := by decide +kernel
theorem dX12_in_5 : decode cX12_in 5 = .ok (.ifCond .eq 32, 3) := by decide +kernel
theorem dX12_in_37 : decode cX12_in 37 = .ok (.iconst 0, 1) := by decide +kernel
theorem dX12_in_38 : decode cX12_in 38 = .ok (.istore 4, 2) := by decide +kernel
theorem dX12_in_40 : decode cX12_in 40 = .ok (.aload_n 0, 1) := by decide +kernel
theorem dX12_in_41 : decode cX12_in 41 = .ok (.iload 4, 2) := by decide +kernel
theorem dX12_in_43 : decode cX12_in 43 = .ok (.ifCond .eq 7, 3) := by decide +kernel
theorem dX12_in_50 : decode cX12_in 50 = .ok (.iconst 1, 1) := by decide +kernel
theorem dX12_in_51 : decode cX12_in 51 = .ok (.putfield 161, 3) := by decide +kernel
theorem dX12_in_54 : decode cX12_in 54 = .ok (.iload 4, 2) := by decide +kernel
theorem dX12_in_56 : decode cX12_in 56 = .ok (.ifCond .eq 30, 3) := by decide +kernel
theorem dX12_in_86 : decode cX12_in 86 = .ok (.iconst 0, 1) := by decide +kernel
theorem dX12_in_87 : decode cX12_in 87 = .ok (.ireturn, 1) := by decide +kernel
set_option maxRecDepth 20000 in
theorem ggX12_isSkein_X12_within : GoodIn wsX12_isSkein wsX12_within := goodIn_r _ [5] (by decide +kernel) (by decide +kernel)
set_option maxRecDepth 20000 in
theorem gX12_isSkein_X12_within : GoodIn wsX12_isSkein (va_wsS RX12 168 yX12_within wsX12_within) := goodIn_app (goodIn_of _ (by decide +kernel)) ggX12_isSkein_X12_within
theorem dX12_isSkein_0 : decode cX12_isSkein 0 = .ok (.iload_n 1, 1) := by decide +kernel
theorem dX12_isSkein_1 : decode cX12_isSkein 1 = .ok (.iconst 0, 1) := by decide +kernel
theorem dX12_isSkein_2 : decode cX12_isSkein 2 = .ok (.aload_n 0, 1) := by decide +kernel
theorem dX12_isSkein_3 : decode cX12_isSkein 3 = .ok (.getfield 290, 3) := by decide +kernel
theorem dX12_isSkein_6 : decode cX12_isSkein 6 = .ok (.iconst 1, 1) := by decide +kernel
theorem dX12_isSkein_7 : decode cX12_isSkein 7 = .ok (.isub, 1) := by decide +kernel
theorem dX12_isSkein_8 : decode cX12_isSkein 8 = .ok (.invokestatic 168, 3) := by decide +kernel
theorem dX12_isSkein_11 : decode cX12_isSkein 11 = .ok (.ireturn, 1) := by decide +kernel
set_option maxRecDepth 20000 in
theorem ggX12_skein_X12_isSkein : GoodIn wsX12_skein wsX12_isSkein := goodIn_r _ [10, 11, 12, 13, 9, 14, 93, 94, 95, 96, 97, 98, 99, 100, 101, 102, 103, 104, 105, 106, 107, 108, 109, 110, 111, 112, 113, 114, 115, 116, 117, 118, 119, 120, 121, 122, 123, 124, 125, 126, 127, 128, 129, 130, 131, 132, 133, 134, 135, 136, 137, 138, 139, 140, 141, 142, 143, 144, 145, 146, 147, 148, 149, 150, 151, 152, 153, 154, 155, 156, 157, 158] (by decide +kernel) (by decide +kernel)
set_option maxRecDepth 20000 in
theorem gX12_skein_X12_isSkein : GoodIn wsX12_skein (wsV RX12 362 RX12 yX12_isSkein wsX12_isSkein) := goodIn_app (goodIn_of _ (by decide +kernel)) ggX12_skein_X12_isSkein
theorem dX12_skein_0 : decode cX12_skein 0 = .ok (.aload_n 0, 1) := by decide +kernel
theorem dX12_skein_1 : decode cX12_skein 1 = .ok (.iconst 0, 1) := by decide +kernel
theorem dX12_skein_2 : decode cX12_skein 2 = .ok (.putfield 161, 3) := by decide +kernel
theorem dX12_skein_5 : decode cX12_skein 5 = .ok (.aload_n 0, 1) := by decide +kernel
theorem dX12_skein_6 : decode cX12_skein 6 = .ok (.iload_n 1, 1) := by decide +kernel
theorem dX12_skein_7 : decode cX12_skein 7 = .ok (.invokevirtual 362, 3) := by decide +kernel
theorem dX12_skein_10 : decode cX12_skein 10 = .ok (.ifCond .ne 5, 3) := by decide +kernel
theorem dX12_skein_13 : decode cX12_skein 13 = .ok (.iconst (-1), 1) := by decide +kernel
theorem dX12_skein_14 : decode cX12_skein 14 = .ok (.ireturn, 1) := by decide +kernel
set_option maxRecDepth 20000 in
theorem ggX12_metre_X12_isSkein : GoodIn wsX12_metre wsX12_isSkein := goodIn_r _ [8, 9, 10, 11, 7, 12, 41, 42, 43, 44, 45, 46, 47, 48, 49, 50, 51, 52, 53, 54, 55, 56, 57, 58, 59, 60, 61, 62, 63, 64, 65, 66, 67, 68, 69, 70, 71, 72, 73, 74, 75, 76, 77, 78, 79, 80, 81, 82, 83, 84, 85, 86, 87, 88, 89, 90, 91, 92, 93, 94, 95, 96, 97, 98, 99, 100, 101, 102, 103, 104, 105, 106] (by decide +kernel) (by decide +kernel)
set_option maxRecDepth 20000 in
theorem gX12_metre_X12_isSkein : GoodIn wsX12_metre (wsV RX12 362 RX12 yX12_isSkein wsX12_isSkein) := goodIn_app (goodIn_of _ (by decide +kernel)) ggX12_metre_X12_isSkein
theorem dX12_metre_0 : decode cX12_metre 0 = .ok (.aload_n 0, 1) := by decide +kernel
theorem dX12_metre_1 : decode cX12_metre 1 = .ok (.iconst 0, 1) := by decide +kernel
theorem dX12_metre_2 : decode cX12_metre 2 = .ok (.putfield 161, 3) := by decide +kernel
theorem dX12_metre_5 : decode cX12_metre 5 = .ok (.aload_n 0, 1) := by decide +kernel
theorem dX12_metre_6 : decode cX12_metre 6 = .ok (.iload_n 1, 1) := by decide +kernel
theorem dX12_metre_7 : decode cX12_metre 7 = .ok (.invokevirtual 362, 3) := by decide +kernel
theorem dX12_metre_10 : decode cX12_metre 10 = .ok (.ifCond .eq 18, 3) := by decide +kernel
theorem dX12_metre_28 : decode cX12_metre 28 = .ok (.iconst (-1), 1) := by decide +kernel
theorem dX12_metre_29 : decode cX12_metre 29 = .ok (.ireturn, 1) := by decide +kernel
set_option maxRecDepth 20000 in
theorem ggX12_piece_X12_isSkein : GoodIn wsX12_piece wsX12_isSkein := goodIn_r _ [9, 10, 11, 12, 8, 13, 30, 31, 32, 33, 34, 35, 36, 37, 38, 39, 40, 41, 42, 43, 44, 45, 46, 47, 48, 49, 50, 51, 52, 53, 54, 55, 56, 57, 58, 59, 60, 61, 62, 63, 64, 65, 66, 67, 68, 69, 70, 71, 72, 73, 74, 75, 76, 77, 78, 79, 80, 81, 82, 83, 84, 85, 86, 87, 88, 89, 90, 91, 92, 93, 94, 95] (by decide +kernel) (by decide +kernel)
set_option maxRecDepth 20000 in
theorem gX12_piece_X12_isSkein : GoodIn wsX12_piece (wsV RX12 362 RX12 yX12_isSkein wsX12_isSkein) := goodIn_app (goodIn_of _ (by decide +kernel)) ggX12_piece_X12_isSkein
theorem dX12_piece_0 : decode cX12_piece 0 = .ok (.aload_n 0, 1) := by decide +kernel
theorem dX12_piece_1 : decode cX12_piece 1 = .ok (.iconst 0, 1) := by decide +kernel
theorem dX12_piece_2 : decode cX12_piece 2 = .ok (.putfield 161, 3) := by decide +kernel
theorem dX12_piece_5 : decode cX12_piece 5 = .ok (.aload_n 0, 1) := by decide +kernel
theorem dX12_piece_6 : decode cX12_piece 6 = .ok (.iload_n 1, 1) := by decide +kernel
theorem dX12_piece_7 : decode cX12_piece 7 = .ok (.invokevirtual 362, 3) := by decide +kernel
theorem dX12_piece_10 : decode cX12_piece 10 = .ok (.ifCond .eq 16, 3) := by decide +kernel
theorem dX12_piece_26 : decode cX12_piece 26 = .ok (.iconst (-1), 1) := by decide +kernel
theorem dX12_piece_27 : decode cX12_piece 27 = .ok (.ireturn, 1) := by decide +kernel
set_option maxRecDepth 20000 in
theorem ggX12_grade_X12_isSkein : GoodIn wsX12_grade wsX12_isSkein := goodIn_r _ [21, 22, 23, 24, 20, 25, 62, 63, 64, 65, 66, 67, 68, 69, 70, 71, 72, 73, 74, 75, 76, 77, 78, 79, 80, 81, 82, 83, 84, 85, 86, 87, 88, 89, 90, 91, 92, 93, 94, 95, 96, 97, 98, 99, 100, 101, 102, 103, 104, 105, 106, 107, 108, 109, 110, 111, 112, 113, 114, 115, 116, 117, 118, 119, 120, 121, 122, 123, 124, 125, 126, 127] (by decide +kernel) (by decide +kernel)
set_option maxRecDepth 20000 in
theorem gX12_grade_X12_isSkein : GoodIn wsX12_grade (wsV RX12 362 RX12 yX12_isSkein wsX12_isSkein) := goodIn_app (goodIn_of _ (by decide +kernel)) ggX12_grade_X12_isSkein
theorem dX12_grade_0 : decode cX12_grade 0 = .ok (.aload_n 0, 1) := by decide +kernel
theorem dX12_grade_1 : decode cX12_grade 1 = .ok (.iconst 0, 1) := by decide +kernel
theorem dX12_grade_2 : decode cX12_grade 2 = .ok (.putfield 161, 3) := by decide +kernel
theorem dX12_grade_5 : decode cX12_grade 5 = .ok (.aload_n 0, 1) := by decide +kernel
theorem dX12_grade_6 : decode cX12_grade 6 = .ok (.iload_n 1, 1) := by decide +kernel
theorem dX12_grade_7 : decode cX12_grade 7 = .ok (.invokevirtual 362, 3) := by decide +kernel
theorem dX12_grade_10 : decode cX12_grade 10 = .ok (.ifCond .eq 21, 3) := by decide +kernel
theorem dX12_grade_31 : decode cX12_grade 31 = .ok (.iconst (-1), 1) := by decide +kernel
theorem dX12_grade_32 : decode cX12_grade 32 = .ok (.ireturn, 1) := by decide +kernel
theorem dX12_drawn_0 : decode cX12_drawn 0 = .ok (.aload_n 0, 1) := by decide +kernel
theorem dX12_drawn_1 : decode cX12_drawn 1 = .ok (.iconst 0, 1) := by decide +kernel
theorem dX12_drawn_2 : decode cX12_drawn 2 = .ok (.putfield 161, 3) := by decide +kernel
theorem dX12_drawn_5 : decode cX12_drawn 5 = .ok (.aload_n 0, 1) := by decide +kernel
theorem dX12_drawn_6 : decode cX12_drawn 6 = .ok (.getfield 388, 3) := by decide +kernel
theorem dX12_drawn_9 : decode cX12_drawn 9 = .ok (.ifCond .eq 17, 3) := by decide +kernel
theorem dX12_drawn_26 : decode cX12_drawn 26 = .ok (.iconst (-1), 1) := by decide +kernel
theorem dX12_drawn_27 : decode cX12_drawn 27 = .ok (.ireturn, 1) := by decide +kernel
set_option maxRecDepth 20000 in
theorem ggX12_isWord_X12_within : GoodIn wsX12_isWord wsX12_within := goodIn_r _ [7] (by decide +kernel) (by decide +kernel)
set_option maxRecDepth 20000 in
theorem gX12_isWord_X12_within : GoodIn wsX12_isWord (va_wsS RX12 168 yX12_within wsX12_within) := goodIn_app (goodIn_of _ (by decide +kernel)) ggX12_isWord_X12_within
theorem dX12_isWord_0 : decode cX12_isWord 0 = .ok (.iload_n 1, 1) := by decide +kernel
theorem dX12_isWord_1 : decode cX12_isWord 1 = .ok (.iconst 0, 1) := by decide +kernel
theorem dX12_isWord_2 : decode cX12_isWord 2 = .ok (.bipush 15, 2) := by decide +kernel
theorem dX12_isWord_4 : decode cX12_isWord 4 = .ok (.invokestatic 168, 3) := by decide +kernel
theorem dX12_isWord_7 : decode cX12_isWord 7 = .ok (.ifCond .eq 35, 3) := by decide +kernel
theorem dX12_isWord_10 : decode cX12_isWord 10 = .ok (.aload_n 0, 1) := by decide +kernel
theorem dX12_isWord_11 : decode cX12_isWord 11 = .ok (.getfield 125, 3) := by decide +kernel
theorem dX12_isWord_14 : decode cX12_isWord 14 = .ok (.iload_n 1, 1) := by decide +kernel
theorem dX12_isWord_15 : decode cX12_isWord 15 = .ok (.baload, 1) := by decide +kernel
theorem dX12_isWord_16 : decode cX12_isWord 16 = .ok (.ifCond .eq 26, 3) := by decide +kernel
theorem dX12_isWord_42 : decode cX12_isWord 42 = .ok (.iconst 0, 1) := by decide +kernel
theorem dX12_isWord_43 : decode cX12_isWord 43 = .ok (.ireturn, 1) := by decide +kernel
set_option maxRecDepth 20000 in
theorem ggX12_price_X12_within : GoodIn wsX12_price wsX12_within := goodIn_r _ [6] (by decide +kernel) (by decide +kernel)
set_option maxRecDepth 20000 in
theorem gX12_price_X12_within : GoodIn wsX12_price (va_wsS RX12 168 yX12_within wsX12_within) := goodIn_app (goodIn_of _ (by decide +kernel)) ggX12_price_X12_within
theorem dX12_price_0 : decode cX12_price 0 = .ok (.aload_n 0, 1) := by decide +kernel
theorem dX12_price_1 : decode cX12_price 1 = .ok (.iconst 0, 1) := by decide +kernel
theorem dX12_price_2 : decode cX12_price 2 = .ok (.putfield 161, 3) := by decide +kernel
theorem dX12_price_5 : decode cX12_price 5 = .ok (.iload_n 1, 1) := by decide +kernel
theorem dX12_price_6 : decode cX12_price 6 = .ok (.iconst 0, 1) := by decide +kernel
theorem dX12_price_7 : decode cX12_price 7 = .ok (.iconst 3, 1) := by decide +kernel
theorem dX12_price_8 : decode cX12_price 8 = .ok (.invokestatic 168, 3) := by decide +kernel
theorem dX12_price_11 : decode cX12_price 11 = .ok (.ifCond .eq 14, 3) := by decide +kernel
theorem dX12_price_14 : decode cX12_price 14 = .ok (.iload_n 2, 1) := by decide +kernel
theorem dX12_price_15 : decode cX12_price 15 = .ok (.iconst 0, 1) := by decide +kernel
theorem dX12_price_16 : decode cX12_price 16 = .ok (.sipush 1000, 3) := by decide +kernel
theorem dX12_price_19 : decode cX12_price 19 = .ok (.invokestatic 168, 3) := by decide +kernel
theorem dX12_price_22 : decode cX12_price 22 = .ok (.ifCond .ne 5, 3) := by decide +kernel
theorem dX12_price_25 : decode cX12_price 25 = .ok (.iconst 0, 1) := by decide +kernel
theorem dX12_price_26 : decode cX12_price 26 = .ok (.ireturn, 1) := by decide +kernel
theorem dX12_price_27 : decode cX12_price 27 = .ok (.aload_n 0, 1) := by decide +kernel
theorem dX12_price_28 : decode cX12_price 28 = .ok (.getfield 119, 3) := by decide +kernel
theorem dX12_price_31 : decode cX12_price 31 = .ok (.iload_n 1, 1) := by decide +kernel
theorem dX12_price_32 : decode cX12_price 32 = .ok (.iload_n 2, 1) := by decide +kernel
theorem dX12_price_33 : decode cX12_price 33 = .ok (.iastore, 1) := by decide +kernel
theorem dX12_price_34 : decode cX12_price 34 = .ok (.iconst 1, 1) := by decide +kernel
theorem dX12_price_35 : decode cX12_price 35 = .ok (.ireturn, 1) := by decide +kernel
set_option maxRecDepth 20000 in
theorem ggX12_mixed_X12_isSkein : GoodIn wsX12_mixed wsX12_isSkein := goodIn_r _ [7, 8, 9, 10, 6, 11, 12, 13, 14, 15, 16, 17, 18, 19, 20, 21, 22, 23, 24, 25, 26, 27, 28, 29, 30, 31, 32, 33, 34, 35, 36, 37, 38, 39, 40, 41, 42, 43, 44, 45, 46, 47, 48, 49, 50, 51, 52, 53, 54, 55, 56, 57, 58, 59, 60, 61, 62, 63, 64, 65, 66, 67, 68, 69, 70, 71, 72, 73, 74, 75, 76, 77] (by decide +kernel) (by decide +kernel)
set_option maxRecDepth 20000 in
theorem gX12_mixed_X12_isSkein : GoodIn wsX12_mixed (wsV RX12 362 RX12 yX12_isSkein wsX12_isSkein) := goodIn_app (goodIn_of _ (by decide +kernel)) ggX12_mixed_X12_isSkein
theorem dX12_mixed_0 : decode cX12_mixed 0 = .ok (.aload_n 0, 1) := by decide +kernel
theorem dX12_mixed_1 : decode cX12_mixed 1 = .ok (.iconst 0, 1) := by decide +kernel
theorem dX12_mixed_2 : decode cX12_mixed 2 = .ok (.putfield 161, 3) := by decide +kernel
theorem dX12_mixed_5 : decode cX12_mixed 5 = .ok (.aload_n 0, 1) := by decide +kernel
theorem dX12_mixed_6 : decode cX12_mixed 6 = .ok (.iload_n 1, 1) := by decide +kernel
theorem dX12_mixed_7 : decode cX12_mixed 7 = .ok (.invokevirtual 362, 3) := by decide +kernel
theorem dX12_mixed_10 : decode cX12_mixed 10 = .ok (.ifCond .eq 16, 3) := by decide +kernel
theorem dX12_mixed_26 : decode cX12_mixed 26 = .ok (.iconst 0, 1) := by decide +kernel
theorem dX12_mixed_27 : decode cX12_mixed 27 = .ok (.ireturn, 1) := by decide +kernel
theorem dX12_day_0 : decode cX12_day 0 = .ok (.aload_n 0, 1) := by decide +kernel
theorem dX12_day_1 : decode cX12_day 1 = .ok (.iconst 0, 1) := by decide +kernel
theorem dX12_day_2 : decode cX12_day 2 = .ok (.putfield 161, 3) := by decide +kernel
theorem dX12_day_5 : decode cX12_day 5 = .ok (.aload_n 0, 1) := by decide +kernel
theorem dX12_day_6 : decode cX12_day 6 = .ok (.dup, 1) := by decide +kernel
theorem dX12_day_7 : decode cX12_day 7 = .ok (.getfield 302, 3) := by decide +kernel
theorem dX12_day_10 : decode cX12_day 10 = .ok (.iconst 1, 1) := by decide +kernel
theorem dX12_day_11 : decode cX12_day 11 = .ok (.iadd, 1) := by decide +kernel
theorem dX12_day_12 : decode cX12_day 12 = .ok (.putfield 302, 3) := by decide +kernel
theorem dX12_day_15 : decode cX12_day 15 = .ok (.aload_n 0, 1) := by decide +kernel
theorem dX12_day_16 : decode cX12_day 16 = .ok (.getfield 302, 3) := by decide +kernel
theorem dX12_day_19 : decode cX12_day 19 = .ok (.ireturn, 1) := by decide +kernel
set_option maxRecDepth 20000 in
theorem ggX12_fault_X12_isSkein : GoodIn wsX12_fault wsX12_isSkein := goodIn_r _ [11, 12, 13, 14, 10, 15, 16, 17, 18, 19, 20, 21, 22, 23, 24, 25, 26, 27, 28, 29, 30, 31, 32, 33, 34, 35, 36, 37, 38, 39, 40, 41, 42, 43, 44, 45, 46, 47, 48, 49, 50, 51, 52, 53, 54, 55, 56, 57, 58, 59, 60, 61, 62, 63, 64, 65, 66, 67, 68, 69, 70, 71, 72, 73, 74, 75, 76, 77, 78, 79, 80, 81] (by decide +kernel) (by decide +kernel)
set_option maxRecDepth 20000 in
theorem gX12_fault_X12_isSkein : GoodIn wsX12_fault (wsV RX12 362 RX12 yX12_isSkein wsX12_isSkein) := goodIn_app (goodIn_of _ (by decide +kernel)) ggX12_fault_X12_isSkein
theorem dX12_fault_0 : decode cX12_fault 0 = .ok (.aload_n 0, 1) := by decide +kernel
theorem dX12_fault_1 : decode cX12_fault 1 = .ok (.iconst 0, 1) := by decide +kernel
theorem dX12_fault_2 : decode cX12_fault 2 = .ok (.putfield 161, 3) := by decide +kernel
theorem dX12_fault_5 : decode cX12_fault 5 = .ok (.aload_n 0, 1) := by decide +kernel
theorem dX12_fault_6 : decode cX12_fault 6 = .ok (.iload_n 1, 1) := by decide +kernel
theorem dX12_fault_7 : decode cX12_fault 7 = .ok (.invokevirtual 362, 3) := by decide +kernel
theorem dX12_fault_10 : decode cX12_fault 10 = .ok (.ifCond .eq 23, 3) := by decide +kernel
theorem dX12_fault_33 : decode cX12_fault 33 = .ok (.iconst 0, 1) := by decide +kernel
theorem dX12_fault_34 : decode cX12_fault 34 = .ok (.ireturn, 1) := by decide +kernel
set_option maxRecDepth 20000 in
theorem ggX12_pay_X12_isPot : GoodIn wsX12_pay wsX12_isPot := goodIn_r _ [14, 15, 16, 17, 13, 18, 67, 68, 69, 70, 71, 72, 73, 74, 75, 76, 77, 78, 79, 80, 81, 82, 83, 84, 85, 86, 87, 88, 89, 90, 91, 92, 93, 94, 95, 96, 97, 98, 99, 100, 101, 102, 103, 104, 105, 106, 107, 108, 109, 110, 111, 112, 113, 114, 115, 116, 117, 118, 119, 120, 121, 122, 123, 124, 125, 126, 127, 128, 129, 130, 131, 132] (by decide +kernel) (by decide +kernel)
set_option maxRecDepth 20000 in
theorem gX12_pay_X12_isPot : GoodIn wsX12_pay (wsV RX12 200 RX12 yX12_isPot wsX12_isPot) := goodIn_app (goodIn_of _ (by decide +kernel)) ggX12_pay_X12_isPot
theorem dX12_pay_0 : decode cX12_pay 0 = .ok (.aload_n 0, 1) := by decide +kernel
theorem dX12_pay_1 : decode cX12_pay 1 = .ok (.iconst 0, 1) := by decide +kernel
theorem dX12_pay_2 : decode cX12_pay 2 = .ok (.putfield 161, 3) := by decide +kernel
theorem dX12_pay_5 : decode cX12_pay 5 = .ok (.aload_n 0, 1) := by decide +kernel
theorem dX12_pay_6 : decode cX12_pay 6 = .ok (.iload_n 1, 1) := by decide +kernel
theorem dX12_pay_7 : decode cX12_pay 7 = .ok (.invokevirtual 200, 3) := by decide +kernel
theorem dX12_pay_10 : decode cX12_pay 10 = .ok (.ifCond .eq 27, 3) := by decide +kernel
theorem dX12_pay_37 : decode cX12_pay 37 = .ok (.iconst 0, 1) := by decide +kernel
theorem dX12_pay_38 : decode cX12_pay 38 = .ok (.ireturn, 1) := by decide +kernel
theorem inn_X12_about_12 : ∀ w ∈ u_ws RX12 TX12 66, w ∈ wsX12_about := fun w h => List.mem_cons_of_mem _ (List.mem_append_right _ h)
theorem inn_X12_cocoon_12 : ∀ w ∈ u_ws RX12 TX12 66, w ∈ wsX12_cocoon := fun w h => List.mem_cons_of_mem _ (List.mem_append_right _ h)
theorem inn_X12_cut_12 : ∀ w ∈ u_ws RX12 TX12 66, w ∈ wsX12_cut := fun w h => List.mem_cons_of_mem _ (List.mem_append_right _ h)
theorem inn_X12_day_12 : ∀ w ∈ u_ws RX12 TX12 66, w ∈ wsX12_day := fun w h => List.mem_cons_of_mem _ (List.mem_append_right _ h)
theorem inn_X12_drawn_12 : ∀ w ∈ u_ws RX12 TX12 66, w ∈ wsX12_drawn := fun w h => List.mem_cons_of_mem _ (List.mem_append_right _ h)
theorem inn_X12_end_12 : ∀ w ∈ u_ws RX12 TX12 66, w ∈ wsX12_end := fun w h => List.mem_cons_of_mem _ (List.mem_append_right _ h)
theorem inn_X12_fault_12 : ∀ w ∈ u_ws RX12 TX12 66, w ∈ wsX12_fault := fun w h => List.mem_cons_of_mem _ (List.mem_append_right _ h)
theorem inn_X12_fill_12 : ∀ w ∈ u_ws RX12 TX12 66, w ∈ wsX12_fill := fun w h => List.mem_cons_of_mem _ (List.mem_append_right _ h)
theorem inn_X12_fineness_12 : ∀ w ∈ u_ws RX12 TX12 66, w ∈ wsX12_fineness := fun w h => List.mem_cons_of_mem _ (List.mem_append_right _ h)
theorem inn_X12_grade_12 : ∀ w ∈ u_ws RX12 TX12 66, w ∈ wsX12_grade := fun w h => List.mem_cons_of_mem _ (List.mem_append_right _ h)
theorem inn_X12_in_12 : ∀ w ∈ u_ws RX12 TX12 66, w ∈ wsX12_in := fun w h => List.mem_cons_of_mem _ (List.mem_append_right _ h)
theorem inn_X12_isCocoon_12 : ∀ w ∈ u_ws RX12 TX12 66, w ∈ wsX12_isCocoon := fun w h => List.mem_cons_of_mem _ (List.mem_append_right _ h)
theorem inn_X12_isPot_12 : ∀ w ∈ u_ws RX12 TX12 66, w ∈ wsX12_isPot := fun w h => List.mem_cons_of_mem _ (List.mem_append_right _ h)
theorem inn_X12_isSkein_12 : ∀ w ∈ u_ws RX12 TX12 66, w ∈ wsX12_isSkein := fun w h => List.mem_cons_of_mem _ (List.mem_append_right _ h)
theorem inn_X12_isWord_12 : ∀ w ∈ u_ws RX12 TX12 66, w ∈ wsX12_isWord := fun w h => List.mem_cons_of_mem _ (List.mem_append_right _ h)
theorem inn_X12_metre_12 : ∀ w ∈ u_ws RX12 TX12 66, w ∈ wsX12_metre := fun w h => List.mem_cons_of_mem _ (List.mem_append_right _ h)
theorem inn_X12_mixed_12 : ∀ w ∈ u_ws RX12 TX12 66, w ∈ wsX12_mixed := fun w h => List.mem_cons_of_mem _ (List.mem_append_right _ h)
theorem inn_X12_pay_12 : ∀ w ∈ u_ws RX12 TX12 66, w ∈ wsX12_pay := fun w h => List.mem_cons_of_mem _ (List.mem_append_right _ h)
theorem inn_X12_piece_12 : ∀ w ∈ u_ws RX12 TX12 66, w ∈ wsX12_piece := fun w h => List.mem_cons_of_mem _ (List.mem_append_right _ h)
theorem inn_X12_place_12 : ∀ w ∈ u_ws RX12 TX12 66, w ∈ wsX12_place := fun w h => List.mem_cons_of_mem _ (List.mem_append_right _ h)
theorem inn_X12_price_12 : ∀ w ∈ u_ws RX12 TX12 66, w ∈ wsX12_price := fun w h => List.mem_cons_of_mem _ (List.mem_append_right _ h)
theorem inn_X12_program_12 : ∀ w ∈ u_ws RX12 TX12 66, w ∈ wsX12_program := fun w h => List.mem_cons_of_mem _ (List.mem_append_right _ h)
theorem inn_X12_run_12 : ∀ w ∈ u_ws RX12 TX12 66, w ∈ wsX12_run := fun w h => List.mem_cons_of_mem _ (List.mem_append_right _ h)
theorem inn_X12_skein_12 : ∀ w ∈ u_ws RX12 TX12 66, w ∈ wsX12_skein := fun w h => List.mem_cons_of_mem _ (List.mem_append_right _ h)
theorem inn_X12_target_12 : ∀ w ∈ u_ws RX12 TX12 66, w ∈ wsX12_target := fun w h => List.mem_cons_of_mem _ (List.mem_append_right _ h)
theorem inn_X12_test_12 : ∀ w ∈ u_ws RX12 TX12 66, w ∈ wsX12_test := fun w h => List.mem_cons_of_mem _ (List.mem_append_right _ h)
end
section
set_option maxHeartbeats 4000000 in
set_option maxRecDepth 100000 in
theorem c_X12_isCocoon (l : Launch) (G : va_G) (cy : Nat → ClassId) (S : PS) (sz : Nat) (mo : Nat) (a1 : Int32) (a2 : Int32) (hat_mo : At S mo 12) (ci_1201 : pI S 1201 mo = 0) : Ci l yX12_isCocoon wsX12_isCocoon ({ frames := 3, cells := 0, slots := 0, locals := 120 }) G cy S sz [.ref mo, .int (a1), .int (a2)] (fun (r : Int32) (S9 : PS) => S = S9 ∧ r = 0) := by
  refine ent_m (cc := cX12_isCocoon) (maxL := 3) (ret := (some .boolean)) (by decide) rfl (Nat.le_of_ble_eq_true rfl) ?_
  intro p e s m below meth c ls X hr hlocks hin hw hl hsz
  subst hsz
  have X : Cx p c cX12_isCocoon 3 s [.ref mo, .int (a1), .int (a2)].toArray wsX12_isCocoon RX12 m G cy (AS S s.heap.size) := X
  have hl : lv_has ls 3 [(0, .ref mo), (1, .int (a1)), (2, .int (a2))] := hl
  refine lv_iload_n X.1 X.2.1 dX12_isCocoon_0 rfl (lv_at hl 1 rfl) ?_
  refine lv_iconst (v := 0) X.1 X.2.1 dX12_isCocoon_1 (by decide) ?_
  refine lv_aload_n X.1 X.2.1 dX12_isCocoon_2 rfl (lv_at hl 0 rfl) ?_
  refine r_get (v := .int 0) X hw hat_mo 1 (by decide) rfl inn_X12_isCocoon_12 (by decide) (X.2.2.2.1 (.fieldLink RX12 165 "SilkMillModel" "lots" "I") (by decide +kernel)) rfl ((gv_1201 _ _).trans (congrArg (fun z => some (Value.int z)) ci_1201)) dX12_isCocoon_3 ?_
  refine lv_iconst (v := 1) X.1 X.2.1 dX12_isCocoon_6 (by decide) ?_
  refine lv_isub X.1 X.2.1 dX12_isCocoon_7 ?_
  refine lv_topi (fun v_1 ev_1 => ?_)
  obtain rfl : v_1 = (-1) := ev_1.trans (by decide +kernel)
  refine k_i (rm := { frames := 1, cells := 0, slots := 0, locals := 40 }) (av := [.int (a1), .int 0, .int (-1)]) X hw (va_runS (As := [.int (a1), .int 0, .int (-1)]) (rest := []) (cfix X) (c_X12_within l G cy S _ (a1) (0) ((-1))) (cwS 3 X.2.2.2.1 gX12_isCocoon_X12_within rfl rfl rfl (by decide +kernel) ⟨Nat.le_of_ble_eq_true rfl, Nat.le_of_ble_eq_true rfl⟩) (pre_S X hw _) rfl rfl hl.1 rfl (lv_room (Nat.le_of_ble_eq_true rfl)) dX12_isCocoon_8 ⟨Nat.le_of_ble_eq_true rfl, Nat.le_of_ble_eq_true rfl⟩) 0 0 (Nat.le_of_ble_eq_true rfl) (Nat.le_of_ble_eq_true rfl) (fun rr_8 S2 H locs hp hw hfr hnw => ?_)
  obtain ⟨e2_8, hp⟩ := hp
  subst e2_8
  rcases hp with ⟨b_8, er_8⟩ | ⟨b_8, er_8⟩
  · exact absurd b_8 (wi_nn _)
  subst er_8
  refine lv_if_eq (tgt := 34) X.1 X.2.1 dX12_isCocoon_11 (by decide) (fun c_11 => ?_) (fun c_11 => absurd c_11 (by decide))
  refine lv_iconst (v := 0) X.1 X.2.1 dX12_isCocoon_34 (by decide) ?_
  exact ret_z X hw hr hlocks (Nat.le_of_ble_eq_true rfl) (Nat.le_of_ble_eq_true rfl) (by decide) ⟨rfl, rfl⟩ dX12_isCocoon_35
set_option maxHeartbeats 4000000 in
set_option maxRecDepth 100000 in
theorem c_X12_isPot (l : Launch) (G : va_G) (cy : Nat → ClassId) (S : PS) (sz : Nat) (mo : Nat) (a1 : Int32) (hat_mo : At S mo 12) (ci_1211 : pI S 1211 mo = 0) : Ci l yX12_isPot wsX12_isPot ({ frames := 3, cells := 0, slots := 0, locals := 120 }) G cy S sz [.ref mo, .int (a1)] (fun (r : Int32) (S9 : PS) => S = S9 ∧ r = 0) := by
  refine ent_m (cc := cX12_isPot) (maxL := 2) (ret := (some .boolean)) (by decide) rfl (Nat.le_of_ble_eq_true rfl) ?_
  intro p e s m below meth c ls X hr hlocks hin hw hl hsz
  subst hsz
  have X : Cx p c cX12_isPot 2 s [.ref mo, .int (a1)].toArray wsX12_isPot RX12 m G cy (AS S s.heap.size) := X
  have hl : lv_has ls 2 [(0, .ref mo), (1, .int (a1))] := hl
  refine lv_iload_n X.1 X.2.1 dX12_isPot_0 rfl (lv_at hl 1 rfl) ?_
  refine lv_iconst (v := 0) X.1 X.2.1 dX12_isPot_1 (by decide) ?_
  refine lv_aload_n X.1 X.2.1 dX12_isPot_2 rfl (lv_at hl 0 rfl) ?_
  refine r_get (v := .int 0) X hw hat_mo 11 (by decide) rfl inn_X12_isPot_12 (by decide) (X.2.2.2.1 (.fieldLink RX12 197 "SilkMillModel" "pots" "I") (by decide +kernel)) rfl ((gv_1211 _ _).trans (congrArg (fun z => some (Value.int z)) ci_1211)) dX12_isPot_3 ?_
  refine lv_iconst (v := 1) X.1 X.2.1 dX12_isPot_6 (by decide) ?_
  refine lv_isub X.1 X.2.1 dX12_isPot_7 ?_
  refine lv_topi (fun v_1 ev_1 => ?_)
  obtain rfl : v_1 = (-1) := ev_1.trans (by decide +kernel)
  refine k_i (rm := { frames := 1, cells := 0, slots := 0, locals := 40 }) (av := [.int (a1), .int 0, .int (-1)]) X hw (va_runS (As := [.int (a1), .int 0, .int (-1)]) (rest := []) (cfix X) (c_X12_within l G cy S _ (a1) (0) ((-1))) (cwS 3 X.2.2.2.1 gX12_isPot_X12_within rfl rfl rfl (by decide +kernel) ⟨Nat.le_of_ble_eq_true rfl, Nat.le_of_ble_eq_true rfl⟩) (pre_S X hw _) rfl rfl hl.1 rfl (lv_room (Nat.le_of_ble_eq_true rfl)) dX12_isPot_8 ⟨Nat.le_of_ble_eq_true rfl, Nat.le_of_ble_eq_true rfl⟩) 0 0 (Nat.le_of_ble_eq_true rfl) (Nat.le_of_ble_eq_true rfl) (fun rr_8 S2 H locs hp hw hfr hnw => ?_)
  obtain ⟨e2_8, hp⟩ := hp
  subst e2_8
  rcases hp with ⟨b_8, er_8⟩ | ⟨b_8, er_8⟩
  · exact absurd b_8 (wi_nn _)
  subst er_8
  exact ret_z X hw hr hlocks (Nat.le_of_ble_eq_true rfl) (Nat.le_of_ble_eq_true rfl) (by decide) ⟨rfl, rfl⟩ dX12_isPot_11
set_option maxHeartbeats 4000000 in
set_option maxRecDepth 100000 in
theorem c_X12_isSkein (l : Launch) (G : va_G) (cy : Nat → ClassId) (S : PS) (sz : Nat) (mo : Nat) (a1 : Int32) (hat_mo : At S mo 12) (ci_1238 : pI S 1238 mo = 0) : Ci l yX12_isSkein wsX12_isSkein ({ frames := 3, cells := 0, slots := 0, locals := 120 }) G cy S sz [.ref mo, .int (a1)] (fun (r : Int32) (S9 : PS) => S = S9 ∧ r = 0) := by
  refine ent_m (cc := cX12_isSkein) (maxL := 2) (ret := (some .boolean)) (by decide) rfl (Nat.le_of_ble_eq_true rfl) ?_
  intro p e s m below meth c ls X hr hlocks hin hw hl hsz
  subst hsz
  have X : Cx p c cX12_isSkein 2 s [.ref mo, .int (a1)].toArray wsX12_isSkein RX12 m G cy (AS S s.heap.size) := X
  have hl : lv_has ls 2 [(0, .ref mo), (1, .int (a1))] := hl
  refine lv_iload_n X.1 X.2.1 dX12_isSkein_0 rfl (lv_at hl 1 rfl) ?_
  refine lv_iconst (v := 0) X.1 X.2.1 dX12_isSkein_1 (by decide) ?_
  refine lv_aload_n X.1 X.2.1 dX12_isSkein_2 rfl (lv_at hl 0 rfl) ?_
  refine r_get (v := .int 0) X hw hat_mo 38 (by decide) rfl inn_X12_isSkein_12 (by decide) (X.2.2.2.1 (.fieldLink RX12 290 "SilkMillModel" "skeins" "I") (by decide +kernel)) rfl ((gv_1238 _ _).trans (congrArg (fun z => some (Value.int z)) ci_1238)) dX12_isSkein_3 ?_
  refine lv_iconst (v := 1) X.1 X.2.1 dX12_isSkein_6 (by decide) ?_
  refine lv_isub X.1 X.2.1 dX12_isSkein_7 ?_
  refine lv_topi (fun v_1 ev_1 => ?_)
  obtain rfl : v_1 = (-1) := ev_1.trans (by decide +kernel)
  refine k_i (rm := { frames := 1, cells := 0, slots := 0, locals := 40 }) (av := [.int (a1), .int 0, .int (-1)]) X hw (va_runS (As := [.int (a1), .int 0, .int (-1)]) (rest := []) (cfix X) (c_X12_within l G cy S _ (a1) (0) ((-1))) (cwS 3 X.2.2.2.1 gX12_isSkein_X12_within rfl rfl rfl (by decide +kernel) ⟨Nat.le_of_ble_eq_true rfl, Nat.le_of_ble_eq_true rfl⟩) (pre_S X hw _) rfl rfl hl.1 rfl (lv_room (Nat.le_of_ble_eq_true rfl)) dX12_isSkein_8 ⟨Nat.le_of_ble_eq_true rfl, Nat.le_of_ble_eq_true rfl⟩) 0 0 (Nat.le_of_ble_eq_true rfl) (Nat.le_of_ble_eq_true rfl) (fun rr_8 S2 H locs hp hw hfr hnw => ?_)
  obtain ⟨e2_8, hp⟩ := hp
  subst e2_8
  rcases hp with ⟨b_8, er_8⟩ | ⟨b_8, er_8⟩
  · exact absurd b_8 (wi_nn _)
  subst er_8
  exact ret_z X hw hr hlocks (Nat.le_of_ble_eq_true rfl) (Nat.le_of_ble_eq_true rfl) (by decide) ⟨rfl, rfl⟩ dX12_isSkein_11
set_option maxHeartbeats 4000000 in
set_option maxRecDepth 100000 in
theorem c_X12_isWord (l : Launch) (G : va_G) (cy : Nat → ClassId) (S : PS) (sz : Nat) (mo : Nat) (a1 : Int32) (hat_mo : At S mo 12)  (il : Nat) (rf_il : pR S 1253 mo = some il) (hat_il : At S il 15) (ln_il : pN S il = 16) (hz : ∀ j, pA S il j = 0) : Ci l yX12_isWord wsX12_isWord ({ frames := 3, cells := 0, slots := 0, locals := 120 }) G cy S sz [.ref mo, .int (a1)] (fun (r : Int32) (S9 : PS) => S = S9 ∧ r = 0) := by
  refine ent_m (cc := cX12_isWord) (maxL := 2) (ret := (some .boolean)) (by decide) rfl (Nat.le_of_ble_eq_true rfl) ?_
  intro p e s m below meth c ls X hr hlocks hin hw hl hsz
  subst hsz
  have X : Cx p c cX12_isWord 2 s [.ref mo, .int (a1)].toArray wsX12_isWord RX12 m G cy (AS S s.heap.size) := X
  have hl : lv_has ls 2 [(0, .ref mo), (1, .int (a1))] := hl
  refine lv_iload_n X.1 X.2.1 dX12_isWord_0 rfl (lv_at hl 1 rfl) ?_
  refine lv_iconst (v := 0) X.1 X.2.1 dX12_isWord_1 (by decide) ?_
  refine lv_bipush (v := 15) X.1 X.2.1 dX12_isWord_2 (by decide) ?_
  refine k_i (rm := { frames := 1, cells := 0, slots := 0, locals := 40 }) (av := [.int (a1), .int 0, .int 15]) X hw (va_runS (As := [.int (a1), .int 0, .int 15]) (rest := []) (cfix X) (c_X12_within l G cy S _ (a1) (0) (15)) (cwS 3 X.2.2.2.1 gX12_isWord_X12_within rfl rfl rfl (by decide +kernel) ⟨Nat.le_of_ble_eq_true rfl, Nat.le_of_ble_eq_true rfl⟩) (pre_S X hw _) rfl rfl hl.1 rfl (lv_room (Nat.le_of_ble_eq_true rfl)) dX12_isWord_4 ⟨Nat.le_of_ble_eq_true rfl, Nat.le_of_ble_eq_true rfl⟩) 0 0 (Nat.le_of_ble_eq_true rfl) (Nat.le_of_ble_eq_true rfl) (fun rr_4 S2 H locs hp hw hfr hnw => ?_)
  obtain ⟨e2_4, hp⟩ := hp
  subst e2_4
  rcases hp with ⟨b_4, er_4⟩ | ⟨b_4, er_4⟩ <;> subst er_4
  · have z_4 := trivial
    refine lv_if_eq (tgt := 42) X.1 X.2.1 dX12_isWord_7 (by decide) (fun c_7 => absurd c_7 (by decide)) (fun c_7 => ?_)
    refine lv_aload_n X.1 X.2.1 dX12_isWord_10 rfl (lv_at hl 0 rfl) ?_
    refine r_getR (g := 1253) X hw hat_mo 53 rf_il (by decide) rfl inn_X12_isWord_12 (by decide) (X.2.2.2.1 (.fieldLink RX12 125 "SilkMillModel" "isLaid" "[Z") (by decide +kernel)) rfl (gv_1253 _ _) dX12_isWord_11 ?_
    refine lv_iload_n X.1 X.2.1 dX12_isWord_14 rfl (lv_at hl 1 rfl) ?_
    refine r_zald X hw hat_il (by rw [ln_il]; exact wi_vp b_4 (by decide)) dX12_isWord_15 ?_
    refine lv_topi (fun v_1 ev_1 => ?_)
    obtain rfl : v_1 = 0 := ev_1.trans (hz _)
    refine lv_if_eq (tgt := 42) X.1 X.2.1 dX12_isWord_16 (by decide) (fun c_16 => ?_) (fun c_16 => absurd c_16 (by decide))
    refine lv_iconst (v := 0) X.1 X.2.1 dX12_isWord_42 (by decide) ?_
    exact ret_z X hw hr hlocks (Nat.le_of_ble_eq_true rfl) (Nat.le_of_ble_eq_true rfl) (by decide) ⟨rfl, rfl⟩ dX12_isWord_43
  · have z_4 := trivial
    refine lv_if_eq (tgt := 42) X.1 X.2.1 dX12_isWord_7 (by decide) (fun c_7 => ?_) (fun c_7 => absurd c_7 (by decide))
    refine lv_iconst (v := 0) X.1 X.2.1 dX12_isWord_42 (by decide) ?_
    exact ret_z X hw hr hlocks (Nat.le_of_ble_eq_true rfl) (Nat.le_of_ble_eq_true rfl) (by decide) ⟨rfl, rfl⟩ dX12_isWord_43
set_option maxHeartbeats 4000000 in
set_option maxRecDepth 100000 in
theorem c_X12_cocoon (l : Launch) (G : va_G) (cy : Nat → ClassId) (S : PS) (sz : Nat) (mo : Nat) (a1 : Int32) (a2 : Int32) (a3 : Int32) (hF : FM S mo) : Ci l yX12_cocoon wsX12_cocoon ({ frames := 5, cells := 0, slots := 0, locals := 200 }) G cy S sz [.ref mo, .int (a1), .int (a2), .int (a3)] (fun (r : Int32) (S9 : PS) => r = -1) := by
  refine ent_m (cc := cX12_cocoon) (maxL := 5) (ret := (some .int)) (by decide) rfl (Nat.le_of_ble_eq_true rfl) ?_
  intro p e s m below meth c ls X hr hlocks hin hw hl hsz
  subst hsz
  have X : Cx p c cX12_cocoon 5 s [.ref mo, .int (a1), .int (a2), .int (a3)].toArray wsX12_cocoon RX12 m G cy (AS S s.heap.size) := X
  have hl : lv_has ls 5 [(0, .ref mo), (1, .int (a1)), (2, .int (a2)), (3, .int (a3))] := hl
  obtain ⟨hat_mo, hci, ci_1229, hars, hz53, hz39⟩ := hF
  have ci_1201 := hci 1201 (by decide)
  refine lv_aload_n X.1 X.2.1 dX12_cocoon_0 rfl (lv_at hl 0 rfl) ?_
  refine lv_iconst (v := 0) X.1 X.2.1 dX12_cocoon_1 (by decide) ?_
  refine r_putI (v := 0) X hw hat_mo 0 1200 tyX12 (by decide) rfl inn_X12_cocoon_12 tyX12_ok nmX12 (by decide) (X.2.2.2.1 (.fieldLink RX12 161 "SilkMillModel" "thrown" "I") (by decide +kernel)) rfl (Or.inl rfl) rfl rfl (Nat.le_of_ble_eq_true rfl) (st_1200 _ _) dX12_cocoon_2 (fun H locs hw => ?_)
  generalize eS_1 : sI S 1200 mo 0 = S_1 at hw
  have hat_mo : At S_1 mo 12 := by rw [← eS_1]; exact At_sI hat_mo
  have ci_1201 : pI S_1 1201 mo = 0 := by rw [← eS_1]; exact (pI_sI_nf (by decide)).trans ci_1201
  have hc_2 : pI S_1 1200 mo = 0 := by rw [← eS_1]; exact pI_sI_same
  refine lv_aload_n X.1 X.2.1 dX12_cocoon_5 rfl (lv_at hl 0 rfl) ?_
  refine lv_iload_n X.1 X.2.1 dX12_cocoon_6 rfl (lv_at hl 1 rfl) ?_
  refine lv_iload_n X.1 X.2.1 dX12_cocoon_7 rfl (lv_at hl 2 rfl) ?_
  refine k_i (rm := { frames := 3, cells := 0, slots := 0, locals := 120 }) (av := [.ref mo, .int (a1), .int (a2)]) X hw (va_runV (As := [.int (a1), .int (a2)]) (rest := []) (cfix X) (c_X12_isCocoon l G cy S_1 _ mo (a1) (a2) hat_mo ci_1201) (cwV 2 X.2.2.2.1 gX12_cocoon_X12_isCocoon rfl rfl rfl (by decide +kernel) ⟨Nat.le_of_ble_eq_true rfl, Nat.le_of_ble_eq_true rfl⟩) (pre_V X hw _ hat_mo (by decide) rfl) rfl rfl hl.1 rfl (lv_room (Nat.le_of_ble_eq_true rfl)) dX12_cocoon_8 ⟨Nat.le_of_ble_eq_true rfl, Nat.le_of_ble_eq_true rfl⟩) 0 0 (Nat.le_of_ble_eq_true rfl) (Nat.le_of_ble_eq_true rfl) (fun rr_8 S2 H locs hp hw hfr hnw => ?_)
  obtain ⟨e2_8, er_8⟩ := hp
  subst e2_8
  subst er_8
  refine lv_if_ne (tgt := 16) X.1 X.2.1 dX12_cocoon_11 (by decide) (fun c_11 => absurd c_11 (by decide)) (fun c_11 => ?_)
  refine lv_iconst (v := (-1)) X.1 X.2.1 dX12_cocoon_14 (by decide) ?_
  exact ret_i X hw hr hlocks (Nat.le_of_ble_eq_true rfl) (Nat.le_of_ble_eq_true rfl) rfl dX12_cocoon_15
set_option maxHeartbeats 4000000 in
set_option maxRecDepth 100000 in
theorem c_X12_fineness (l : Launch) (G : va_G) (cy : Nat → ClassId) (S : PS) (sz : Nat) (mo : Nat) (a1 : Int32) (a2 : Int32) (a3 : Int32) (hF : FM S mo) : Ci l yX12_fineness wsX12_fineness ({ frames := 5, cells := 0, slots := 0, locals := 200 }) G cy S sz [.ref mo, .int (a1), .int (a2), .int (a3)] (fun (r : Int32) (S9 : PS) => r = 0 ∧ At S9 mo 12 ∧ pI S9 1200 mo = 1) := by
  refine ent_m (cc := cX12_fineness) (maxL := 5) (ret := (some .int)) (by decide) rfl (Nat.le_of_ble_eq_true rfl) ?_
  intro p e s m below meth c ls X hr hlocks hin hw hl hsz
  subst hsz
  have X : Cx p c cX12_fineness 5 s [.ref mo, .int (a1), .int (a2), .int (a3)].toArray wsX12_fineness RX12 m G cy (AS S s.heap.size) := X
  have hl : lv_has ls 5 [(0, .ref mo), (1, .int (a1)), (2, .int (a2)), (3, .int (a3))] := hl
  obtain ⟨hat_mo, hci, ci_1229, hars, hz53, hz39⟩ := hF
  have ci_1201 := hci 1201 (by decide)
  refine lv_aload_n X.1 X.2.1 dX12_fineness_0 rfl (lv_at hl 0 rfl) ?_
  refine lv_iload_n X.1 X.2.1 dX12_fineness_1 rfl (lv_at hl 1 rfl) ?_
  refine lv_iload_n X.1 X.2.1 dX12_fineness_2 rfl (lv_at hl 2 rfl) ?_
  refine k_i (rm := { frames := 3, cells := 0, slots := 0, locals := 120 }) (av := [.ref mo, .int (a1), .int (a2)]) X hw (va_runV (As := [.int (a1), .int (a2)]) (rest := []) (cfix X) (c_X12_isCocoon l G cy S _ mo (a1) (a2) hat_mo ci_1201) (cwV 2 X.2.2.2.1 gX12_fineness_X12_isCocoon rfl rfl rfl (by decide +kernel) ⟨Nat.le_of_ble_eq_true rfl, Nat.le_of_ble_eq_true rfl⟩) (pre_V X hw _ hat_mo (by decide) rfl) rfl rfl hl.1 rfl (lv_room (Nat.le_of_ble_eq_true rfl)) dX12_fineness_3 ⟨Nat.le_of_ble_eq_true rfl, Nat.le_of_ble_eq_true rfl⟩) 0 0 (Nat.le_of_ble_eq_true rfl) (Nat.le_of_ble_eq_true rfl) (fun rr_3 S2 H locs hp hw hfr hnw => ?_)
  obtain ⟨e2_3, er_3⟩ := hp
  subst e2_3
  subst er_3
  refine lv_if_eq (tgt := 33) X.1 X.2.1 dX12_fineness_6 (by decide) (fun c_6 => ?_) (fun c_6 => absurd c_6 (by decide))
  refine lv_iconst (v := 0) X.1 X.2.1 dX12_fineness_33 (by decide) ?_
  refine lv_istore (lv' := [(4, .int 0), (0, .ref mo), (1, .int (a1)), (2, .int (a2)), (3, .int (a3))]) X.1 X.2.1 dX12_fineness_34 hl (by decide) rfl (fun ls hl => ?_)
  refine lv_aload_n X.1 X.2.1 dX12_fineness_36 rfl (lv_at hl 1 rfl) ?_
  refine lv_iload X.1 X.2.1 dX12_fineness_37 (lv_at hl 0 rfl) ?_
  refine lv_if_eq (tgt := 46) X.1 X.2.1 dX12_fineness_39 (by decide) (fun c_39 => ?_) (fun c_39 => absurd c_39 (by decide))
  refine lv_iconst (v := 1) X.1 X.2.1 dX12_fineness_46 (by decide) ?_
  refine r_putI (v := 1) X hw hat_mo 0 1200 tyX12 (by decide) rfl inn_X12_fineness_12 tyX12_ok nmX12 (by decide) (X.2.2.2.1 (.fieldLink RX12 161 "SilkMillModel" "thrown" "I") (by decide +kernel)) rfl (Or.inl rfl) rfl rfl (Nat.le_of_ble_eq_true rfl) (st_1200 _ _) dX12_fineness_47 (fun H locs hw => ?_)
  generalize eS_1 : sI S 1200 mo 1 = S_1 at hw
  have hat_mo : At S_1 mo 12 := by rw [← eS_1]; exact At_sI hat_mo
  have ci_1201 : pI S_1 1201 mo = 0 := by rw [← eS_1]; exact (pI_sI_nf (by decide)).trans ci_1201
  have hc_2 : pI S_1 1200 mo = 1 := by rw [← eS_1]; exact pI_sI_same
  refine lv_iload X.1 X.2.1 dX12_fineness_50 (lv_at hl 0 rfl) ?_
  refine lv_if_eq (tgt := 69) X.1 X.2.1 dX12_fineness_52 (by decide) (fun c_52 => ?_) (fun c_52 => absurd c_52 (by decide))
  refine lv_iconst (v := 0) X.1 X.2.1 dX12_fineness_69 (by decide) ?_
  exact ret_i X hw hr hlocks (Nat.le_of_ble_eq_true rfl) (Nat.le_of_ble_eq_true rfl) ⟨rfl, hat_mo, hc_2⟩ dX12_fineness_70
set_option maxHeartbeats 4000000 in
set_option maxRecDepth 100000 in
theorem c_X12_in (l : Launch) (G : va_G) (cy : Nat → ClassId) (S : PS) (sz : Nat) (mo : Nat) (a1 : Int32) (a2 : Int32) (a3 : Int32) (hF : FM S mo) : Ci l yX12_in wsX12_in ({ frames := 5, cells := 0, slots := 0, locals := 200 }) G cy S sz [.ref mo, .int (a1), .int (a2), .int (a3)] (fun (r : Int32) (S9 : PS) => r = 0 ∧ At S9 mo 12 ∧ pI S9 1200 mo = 1) := by
  refine ent_m (cc := cX12_in) (maxL := 5) (ret := (some .int)) (by decide) rfl (Nat.le_of_ble_eq_true rfl) ?_
  intro p e s m below meth c ls X hr hlocks hin hw hl hsz
  subst hsz
  have X : Cx p c cX12_in 5 s [.ref mo, .int (a1), .int (a2), .int (a3)].toArray wsX12_in RX12 m G cy (AS S s.heap.size) := X
  have hl : lv_has ls 5 [(0, .ref mo), (1, .int (a1)), (2, .int (a2)), (3, .int (a3))] := hl
  obtain ⟨hat_mo, hci, ci_1229, hars, hz53, hz39⟩ := hF
  have ci_1211 := hci 1211 (by decide)
  refine lv_aload_n X.1 X.2.1 dX12_in_0 rfl (lv_at hl 0 rfl) ?_
  refine lv_iload_n X.1 X.2.1 dX12_in_1 rfl (lv_at hl 1 rfl) ?_
  refine k_i (rm := { frames := 3, cells := 0, slots := 0, locals := 120 }) (av := [.ref mo, .int (a1)]) X hw (va_runV (As := [.int (a1)]) (rest := []) (cfix X) (c_X12_isPot l G cy S _ mo (a1) hat_mo ci_1211) (cwV 1 X.2.2.2.1 gX12_in_X12_isPot rfl rfl rfl (by decide +kernel) ⟨Nat.le_of_ble_eq_true rfl, Nat.le_of_ble_eq_true rfl⟩) (pre_V X hw _ hat_mo (by decide) rfl) rfl rfl hl.1 rfl (lv_room (Nat.le_of_ble_eq_true rfl)) dX12_in_2 ⟨Nat.le_of_ble_eq_true rfl, Nat.le_of_ble_eq_true rfl⟩) 0 0 (Nat.le_of_ble_eq_true rfl) (Nat.le_of_ble_eq_true rfl) (fun rr_2 S2 H locs hp hw hfr hnw => ?_)
  obtain ⟨e2_2, er_2⟩ := hp
  subst e2_2
  subst er_2
  refine lv_if_eq (tgt := 37) X.1 X.2.1 dX12_in_5 (by decide) (fun c_5 => ?_) (fun c_5 => absurd c_5 (by decide))
  refine lv_iconst (v := 0) X.1 X.2.1 dX12_in_37 (by decide) ?_
  refine lv_istore (lv' := [(4, .int 0), (0, .ref mo), (1, .int (a1)), (2, .int (a2)), (3, .int (a3))]) X.1 X.2.1 dX12_in_38 hl (by decide) rfl (fun ls hl => ?_)
  refine lv_aload_n X.1 X.2.1 dX12_in_40 rfl (lv_at hl 1 rfl) ?_
  refine lv_iload X.1 X.2.1 dX12_in_41 (lv_at hl 0 rfl) ?_
  refine lv_if_eq (tgt := 50) X.1 X.2.1 dX12_in_43 (by decide) (fun c_43 => ?_) (fun c_43 => absurd c_43 (by decide))
  refine lv_iconst (v := 1) X.1 X.2.1 dX12_in_50 (by decide) ?_
  refine r_putI (v := 1) X hw hat_mo 0 1200 tyX12 (by decide) rfl inn_X12_in_12 tyX12_ok nmX12 (by decide) (X.2.2.2.1 (.fieldLink RX12 161 "SilkMillModel" "thrown" "I") (by decide +kernel)) rfl (Or.inl rfl) rfl rfl (Nat.le_of_ble_eq_true rfl) (st_1200 _ _) dX12_in_51 (fun H locs hw => ?_)
  generalize eS_1 : sI S 1200 mo 1 = S_1 at hw
  have hat_mo : At S_1 mo 12 := by rw [← eS_1]; exact At_sI hat_mo
  have ci_1211 : pI S_1 1211 mo = 0 := by rw [← eS_1]; exact (pI_sI_nf (by decide)).trans ci_1211
  have hc_2 : pI S_1 1200 mo = 1 := by rw [← eS_1]; exact pI_sI_same
  refine lv_iload X.1 X.2.1 dX12_in_54 (lv_at hl 0 rfl) ?_
  refine lv_if_eq (tgt := 86) X.1 X.2.1 dX12_in_56 (by decide) (fun c_56 => ?_) (fun c_56 => absurd c_56 (by decide))
  refine lv_iconst (v := 0) X.1 X.2.1 dX12_in_86 (by decide) ?_
  exact ret_i X hw hr hlocks (Nat.le_of_ble_eq_true rfl) (Nat.le_of_ble_eq_true rfl) ⟨rfl, hat_mo, hc_2⟩ dX12_in_87
set_option maxHeartbeats 4000000 in
set_option maxRecDepth 100000 in
theorem c_X12_test (l : Launch) (G : va_G) (cy : Nat → ClassId) (S : PS) (sz : Nat) (mo : Nat) (a1 : Int32) (a2 : Int32) (a3 : Int32) (hF : FM S mo) : Ci l yX12_test wsX12_test ({ frames := 5, cells := 0, slots := 0, locals := 200 }) G cy S sz [.ref mo, .int (a1), .int (a2), .int (a3)] (fun (r : Int32) (S9 : PS) => r = -1) := by
  refine ent_m (cc := cX12_test) (maxL := 13) (ret := (some .int)) (by decide) rfl (Nat.le_of_ble_eq_true rfl) ?_
  intro p e s m below meth c ls X hr hlocks hin hw hl hsz
  subst hsz
  have X : Cx p c cX12_test 13 s [.ref mo, .int (a1), .int (a2), .int (a3)].toArray wsX12_test RX12 m G cy (AS S s.heap.size) := X
  have hl : lv_has ls 13 [(0, .ref mo), (1, .int (a1)), (2, .int (a2)), (3, .int (a3))] := hl
  obtain ⟨hat_mo, hci, ci_1229, hars, hz53, hz39⟩ := hF
  have ci_1201 := hci 1201 (by decide)
  refine lv_aload_n X.1 X.2.1 dX12_test_0 rfl (lv_at hl 0 rfl) ?_
  refine lv_iconst (v := 0) X.1 X.2.1 dX12_test_1 (by decide) ?_
  refine r_putI (v := 0) X hw hat_mo 0 1200 tyX12 (by decide) rfl inn_X12_test_12 tyX12_ok nmX12 (by decide) (X.2.2.2.1 (.fieldLink RX12 161 "SilkMillModel" "thrown" "I") (by decide +kernel)) rfl (Or.inl rfl) rfl rfl (Nat.le_of_ble_eq_true rfl) (st_1200 _ _) dX12_test_2 (fun H locs hw => ?_)
  generalize eS_1 : sI S 1200 mo 0 = S_1 at hw
  have hat_mo : At S_1 mo 12 := by rw [← eS_1]; exact At_sI hat_mo
  have ci_1201 : pI S_1 1201 mo = 0 := by rw [← eS_1]; exact (pI_sI_nf (by decide)).trans ci_1201
  have hc_2 : pI S_1 1200 mo = 0 := by rw [← eS_1]; exact pI_sI_same
  refine lv_iload_n X.1 X.2.1 dX12_test_5 rfl (lv_at hl 1 rfl) ?_
  refine lv_iconst (v := 0) X.1 X.2.1 dX12_test_6 (by decide) ?_
  refine lv_aload_n X.1 X.2.1 dX12_test_7 rfl (lv_at hl 0 rfl) ?_
  refine r_get (v := .int 0) X hw hat_mo 1 (by decide) rfl inn_X12_test_12 (by decide) (X.2.2.2.1 (.fieldLink RX12 165 "SilkMillModel" "lots" "I") (by decide +kernel)) rfl ((gv_1201 _ _).trans (congrArg (fun z => some (Value.int z)) ci_1201)) dX12_test_8 ?_
  refine lv_iconst (v := 1) X.1 X.2.1 dX12_test_11 (by decide) ?_
  refine lv_isub X.1 X.2.1 dX12_test_12 ?_
  refine lv_topi (fun v_3 ev_3 => ?_)
  obtain rfl : v_3 = (-1) := ev_3.trans (by decide +kernel)
  refine k_i (rm := { frames := 1, cells := 0, slots := 0, locals := 40 }) (av := [.int (a1), .int 0, .int (-1)]) X hw (va_runS (As := [.int (a1), .int 0, .int (-1)]) (rest := []) (cfix X) (c_X12_within l G cy S_1 _ (a1) (0) ((-1))) (cwS 3 X.2.2.2.1 gX12_test_X12_within rfl rfl rfl (by decide +kernel) ⟨Nat.le_of_ble_eq_true rfl, Nat.le_of_ble_eq_true rfl⟩) (pre_S X hw _) rfl rfl hl.1 rfl (lv_room (Nat.le_of_ble_eq_true rfl)) dX12_test_13 ⟨Nat.le_of_ble_eq_true rfl, Nat.le_of_ble_eq_true rfl⟩) 0 0 (Nat.le_of_ble_eq_true rfl) (Nat.le_of_ble_eq_true rfl) (fun rr_13 S2 H locs hp hw hfr hnw => ?_)
  obtain ⟨e2_13, hp⟩ := hp
  subst e2_13
  rcases hp with ⟨b_13, er_13⟩ | ⟨b_13, er_13⟩
  · exact absurd b_13 (wi_nn _)
  subst er_13
  refine lv_if_ne (tgt := 21) X.1 X.2.1 dX12_test_16 (by decide) (fun c_16 => absurd c_16 (by decide)) (fun c_16 => ?_)
  refine lv_iconst (v := (-1)) X.1 X.2.1 dX12_test_19 (by decide) ?_
  exact ret_i X hw hr hlocks (Nat.le_of_ble_eq_true rfl) (Nat.le_of_ble_eq_true rfl) rfl dX12_test_20
set_option maxHeartbeats 4000000 in
set_option maxRecDepth 100000 in
theorem c_X12_target (l : Launch) (G : va_G) (cy : Nat → ClassId) (S : PS) (sz : Nat) (mo : Nat) (a1 : Int32) (a2 : Int32) (hF : FM S mo) : Ci l yX12_target wsX12_target ({ frames := 5, cells := 0, slots := 0, locals := 200 }) G cy S sz [.ref mo, .int (a1), .int (a2)] (fun (r : Int32) (S9 : PS) => r = 0) := by
  refine ent_m (cc := cX12_target) (maxL := 3) (ret := (some .boolean)) (by decide) rfl (Nat.le_of_ble_eq_true rfl) ?_
  intro p e s m below meth c ls X hr hlocks hin hw hl hsz
  subst hsz
  have X : Cx p c cX12_target 3 s [.ref mo, .int (a1), .int (a2)].toArray wsX12_target RX12 m G cy (AS S s.heap.size) := X
  have hl : lv_has ls 3 [(0, .ref mo), (1, .int (a1)), (2, .int (a2))] := hl
  obtain ⟨hat_mo, hci, ci_1229, hars, hz53, hz39⟩ := hF
  have ci_1211 := hci 1211 (by decide)
  refine lv_aload_n X.1 X.2.1 dX12_target_0 rfl (lv_at hl 0 rfl) ?_
  refine lv_iconst (v := 0) X.1 X.2.1 dX12_target_1 (by decide) ?_
  refine r_putI (v := 0) X hw hat_mo 0 1200 tyX12 (by decide) rfl inn_X12_target_12 tyX12_ok nmX12 (by decide) (X.2.2.2.1 (.fieldLink RX12 161 "SilkMillModel" "thrown" "I") (by decide +kernel)) rfl (Or.inl rfl) rfl rfl (Nat.le_of_ble_eq_true rfl) (st_1200 _ _) dX12_target_2 (fun H locs hw => ?_)
  generalize eS_1 : sI S 1200 mo 0 = S_1 at hw
  have hat_mo : At S_1 mo 12 := by rw [← eS_1]; exact At_sI hat_mo
  have ci_1211 : pI S_1 1211 mo = 0 := by rw [← eS_1]; exact (pI_sI_nf (by decide)).trans ci_1211
  have hc_2 : pI S_1 1200 mo = 0 := by rw [← eS_1]; exact pI_sI_same
  refine lv_aload_n X.1 X.2.1 dX12_target_5 rfl (lv_at hl 0 rfl) ?_
  refine lv_iload_n X.1 X.2.1 dX12_target_6 rfl (lv_at hl 1 rfl) ?_
  refine k_i (rm := { frames := 3, cells := 0, slots := 0, locals := 120 }) (av := [.ref mo, .int (a1)]) X hw (va_runV (As := [.int (a1)]) (rest := []) (cfix X) (c_X12_isPot l G cy S_1 _ mo (a1) hat_mo ci_1211) (cwV 1 X.2.2.2.1 gX12_target_X12_isPot rfl rfl rfl (by decide +kernel) ⟨Nat.le_of_ble_eq_true rfl, Nat.le_of_ble_eq_true rfl⟩) (pre_V X hw _ hat_mo (by decide) rfl) rfl rfl hl.1 rfl (lv_room (Nat.le_of_ble_eq_true rfl)) dX12_target_7 ⟨Nat.le_of_ble_eq_true rfl, Nat.le_of_ble_eq_true rfl⟩) 0 0 (Nat.le_of_ble_eq_true rfl) (Nat.le_of_ble_eq_true rfl) (fun rr_7 S2 H locs hp hw hfr hnw => ?_)
  obtain ⟨e2_7, er_7⟩ := hp
  subst e2_7
  subst er_7
  refine lv_if_eq (tgt := 25) X.1 X.2.1 dX12_target_10 (by decide) (fun c_10 => ?_) (fun c_10 => absurd c_10 (by decide))
  refine lv_iconst (v := 0) X.1 X.2.1 dX12_target_25 (by decide) ?_
  exact ret_z X hw hr hlocks (Nat.le_of_ble_eq_true rfl) (Nat.le_of_ble_eq_true rfl) (by decide) rfl dX12_target_26
set_option maxHeartbeats 4000000 in
set_option maxRecDepth 100000 in
theorem c_X12_fill (l : Launch) (G : va_G) (cy : Nat → ClassId) (S : PS) (sz : Nat) (mo : Nat) (a1 : Int32) (a2 : Int32) (a3 : Int32) (a4 : Int32) (hF : FM S mo) : Ci l yX12_fill wsX12_fill ({ frames := 5, cells := 0, slots := 0, locals := 200 }) G cy S sz [.ref mo, .int (a1), .int (a2), .int (a3), .int (a4)] (fun (r : Int32) (S9 : PS) => r = 0) := by
  refine ent_m (cc := cX12_fill) (maxL := 6) (ret := (some .boolean)) (by decide) rfl (Nat.le_of_ble_eq_true rfl) ?_
  intro p e s m below meth c ls X hr hlocks hin hw hl hsz
  subst hsz
  have X : Cx p c cX12_fill 6 s [.ref mo, .int (a1), .int (a2), .int (a3), .int (a4)].toArray wsX12_fill RX12 m G cy (AS S s.heap.size) := X
  have hl : lv_has ls 6 [(0, .ref mo), (1, .int (a1)), (2, .int (a2)), (3, .int (a3)), (4, .int (a4))] := hl
  obtain ⟨hat_mo, hci, ci_1229, hars, hz53, hz39⟩ := hF
  have ci_1211 := hci 1211 (by decide)
  refine lv_aload_n X.1 X.2.1 dX12_fill_0 rfl (lv_at hl 0 rfl) ?_
  refine lv_iconst (v := 0) X.1 X.2.1 dX12_fill_1 (by decide) ?_
  refine r_putI (v := 0) X hw hat_mo 0 1200 tyX12 (by decide) rfl inn_X12_fill_12 tyX12_ok nmX12 (by decide) (X.2.2.2.1 (.fieldLink RX12 161 "SilkMillModel" "thrown" "I") (by decide +kernel)) rfl (Or.inl rfl) rfl rfl (Nat.le_of_ble_eq_true rfl) (st_1200 _ _) dX12_fill_2 (fun H locs hw => ?_)
  generalize eS_1 : sI S 1200 mo 0 = S_1 at hw
  have hat_mo : At S_1 mo 12 := by rw [← eS_1]; exact At_sI hat_mo
  have ci_1211 : pI S_1 1211 mo = 0 := by rw [← eS_1]; exact (pI_sI_nf (by decide)).trans ci_1211
  have hc_2 : pI S_1 1200 mo = 0 := by rw [← eS_1]; exact pI_sI_same
  refine lv_aload_n X.1 X.2.1 dX12_fill_5 rfl (lv_at hl 0 rfl) ?_
  refine lv_iload_n X.1 X.2.1 dX12_fill_6 rfl (lv_at hl 1 rfl) ?_
  refine k_i (rm := { frames := 3, cells := 0, slots := 0, locals := 120 }) (av := [.ref mo, .int (a1)]) X hw (va_runV (As := [.int (a1)]) (rest := []) (cfix X) (c_X12_isPot l G cy S_1 _ mo (a1) hat_mo ci_1211) (cwV 1 X.2.2.2.1 gX12_fill_X12_isPot rfl rfl rfl (by decide +kernel) ⟨Nat.le_of_ble_eq_true rfl, Nat.le_of_ble_eq_true rfl⟩) (pre_V X hw _ hat_mo (by decide) rfl) rfl rfl hl.1 rfl (lv_room (Nat.le_of_ble_eq_true rfl)) dX12_fill_7 ⟨Nat.le_of_ble_eq_true rfl, Nat.le_of_ble_eq_true rfl⟩) 0 0 (Nat.le_of_ble_eq_true rfl) (Nat.le_of_ble_eq_true rfl) (fun rr_7 S2 H locs hp hw hfr hnw => ?_)
  obtain ⟨e2_7, er_7⟩ := hp
  subst e2_7
  subst er_7
  refine lv_if_eq (tgt := 55) X.1 X.2.1 dX12_fill_10 (by decide) (fun c_10 => ?_) (fun c_10 => absurd c_10 (by decide))
  refine lv_iconst (v := 0) X.1 X.2.1 dX12_fill_55 (by decide) ?_
  exact ret_z X hw hr hlocks (Nat.le_of_ble_eq_true rfl) (Nat.le_of_ble_eq_true rfl) (by decide) rfl dX12_fill_56
set_option maxHeartbeats 4000000 in
set_option maxRecDepth 100000 in
theorem c_X12_program (l : Launch) (G : va_G) (cy : Nat → ClassId) (S : PS) (sz : Nat) (mo : Nat) (a1 : Int32) (hF : FM S mo) : Ci l yX12_program wsX12_program ({ frames := 5, cells := 0, slots := 0, locals := 200 }) G cy S sz [.ref mo, .int (a1)] (fun (r : Int32) (S9 : PS) => r = -1) := by
  refine ent_m (cc := cX12_program) (maxL := 5) (ret := (some .int)) (by decide) rfl (Nat.le_of_ble_eq_true rfl) ?_
  intro p e s m below meth c ls X hr hlocks hin hw hl hsz
  subst hsz
  have X : Cx p c cX12_program 5 s [.ref mo, .int (a1)].toArray wsX12_program RX12 m G cy (AS S s.heap.size) := X
  have hl : lv_has ls 5 [(0, .ref mo), (1, .int (a1))] := hl
  obtain ⟨hat_mo, hci, ci_1229, hars, hz53, hz39⟩ := hF
  have ci_1211 := hci 1211 (by decide)
  refine lv_aload_n X.1 X.2.1 dX12_program_0 rfl (lv_at hl 0 rfl) ?_
  refine lv_iconst (v := 0) X.1 X.2.1 dX12_program_1 (by decide) ?_
  refine r_putI (v := 0) X hw hat_mo 0 1200 tyX12 (by decide) rfl inn_X12_program_12 tyX12_ok nmX12 (by decide) (X.2.2.2.1 (.fieldLink RX12 161 "SilkMillModel" "thrown" "I") (by decide +kernel)) rfl (Or.inl rfl) rfl rfl (Nat.le_of_ble_eq_true rfl) (st_1200 _ _) dX12_program_2 (fun H locs hw => ?_)
  generalize eS_1 : sI S 1200 mo 0 = S_1 at hw
  have hat_mo : At S_1 mo 12 := by rw [← eS_1]; exact At_sI hat_mo
  have ci_1211 : pI S_1 1211 mo = 0 := by rw [← eS_1]; exact (pI_sI_nf (by decide)).trans ci_1211
  have hc_2 : pI S_1 1200 mo = 0 := by rw [← eS_1]; exact pI_sI_same
  refine lv_aload_n X.1 X.2.1 dX12_program_5 rfl (lv_at hl 0 rfl) ?_
  refine lv_iload_n X.1 X.2.1 dX12_program_6 rfl (lv_at hl 1 rfl) ?_
  refine k_i (rm := { frames := 3, cells := 0, slots := 0, locals := 120 }) (av := [.ref mo, .int (a1)]) X hw (va_runV (As := [.int (a1)]) (rest := []) (cfix X) (c_X12_isPot l G cy S_1 _ mo (a1) hat_mo ci_1211) (cwV 1 X.2.2.2.1 gX12_program_X12_isPot rfl rfl rfl (by decide +kernel) ⟨Nat.le_of_ble_eq_true rfl, Nat.le_of_ble_eq_true rfl⟩) (pre_V X hw _ hat_mo (by decide) rfl) rfl rfl hl.1 rfl (lv_room (Nat.le_of_ble_eq_true rfl)) dX12_program_7 ⟨Nat.le_of_ble_eq_true rfl, Nat.le_of_ble_eq_true rfl⟩) 0 0 (Nat.le_of_ble_eq_true rfl) (Nat.le_of_ble_eq_true rfl) (fun rr_7 S2 H locs hp hw hfr hnw => ?_)
  obtain ⟨e2_7, er_7⟩ := hp
  subst e2_7
  subst er_7
  refine lv_if_ne (tgt := 15) X.1 X.2.1 dX12_program_10 (by decide) (fun c_10 => absurd c_10 (by decide)) (fun c_10 => ?_)
  refine lv_iconst (v := (-1)) X.1 X.2.1 dX12_program_13 (by decide) ?_
  exact ret_i X hw hr hlocks (Nat.le_of_ble_eq_true rfl) (Nat.le_of_ble_eq_true rfl) rfl dX12_program_14
set_option maxHeartbeats 4000000 in
set_option maxRecDepth 100000 in
theorem c_X12_place (l : Launch) (G : va_G) (cy : Nat → ClassId) (S : PS) (sz : Nat) (mo : Nat) (hF : FM S mo) : Ci l yX12_place wsX12_place ({ frames := 5, cells := 0, slots := 0, locals := 200 }) G cy S sz [.ref mo] (fun (r : Int32) (S9 : PS) => r = -1) := by
  refine ent_m (cc := cX12_place) (maxL := 1) (ret := (some .int)) (by decide) rfl (Nat.le_of_ble_eq_true rfl) ?_
  intro p e s m below meth c ls X hr hlocks hin hw hl hsz
  subst hsz
  have X : Cx p c cX12_place 1 s [.ref mo].toArray wsX12_place RX12 m G cy (AS S s.heap.size) := X
  have hl : lv_has ls 1 [(0, .ref mo)] := hl
  obtain ⟨hat_mo, hci, ci_1229, hars, hz53, hz39⟩ := hF
  refine lv_aload_n X.1 X.2.1 dX12_place_0 rfl (lv_at hl 0 rfl) ?_
  refine lv_iconst (v := 0) X.1 X.2.1 dX12_place_1 (by decide) ?_
  refine r_putI (v := 0) X hw hat_mo 0 1200 tyX12 (by decide) rfl inn_X12_place_12 tyX12_ok nmX12 (by decide) (X.2.2.2.1 (.fieldLink RX12 161 "SilkMillModel" "thrown" "I") (by decide +kernel)) rfl (Or.inl rfl) rfl rfl (Nat.le_of_ble_eq_true rfl) (st_1200 _ _) dX12_place_2 (fun H locs hw => ?_)
  generalize eS_1 : sI S 1200 mo 0 = S_1 at hw
  have hat_mo : At S_1 mo 12 := by rw [← eS_1]; exact At_sI hat_mo
  have ci_1229 : pI S_1 1229 mo = (-1) := by rw [← eS_1]; exact (pI_sI_nf (by decide)).trans ci_1229
  have hc_2 : pI S_1 1200 mo = 0 := by rw [← eS_1]; exact pI_sI_same
  refine lv_aload_n X.1 X.2.1 dX12_place_5 rfl (lv_at hl 0 rfl) ?_
  refine r_get (v := .int (-1)) X hw hat_mo 29 (by decide) rfl inn_X12_place_12 (by decide) (X.2.2.2.1 (.fieldLink RX12 86 "SilkMillModel" "faultPlace" "I") (by decide +kernel)) rfl ((gv_1229 _ _).trans (congrArg (fun z => some (Value.int z)) ci_1229)) dX12_place_6 ?_
  exact ret_i X hw hr hlocks (Nat.le_of_ble_eq_true rfl) (Nat.le_of_ble_eq_true rfl) rfl dX12_place_9
set_option maxHeartbeats 4000000 in
set_option maxRecDepth 100000 in
theorem c_X12_run (l : Launch) (G : va_G) (cy : Nat → ClassId) (S : PS) (sz : Nat) (mo : Nat) (a1 : Int32) (a2 : Int32) (hF : FM S mo) : Ci l yX12_run wsX12_run ({ frames := 5, cells := 0, slots := 0, locals := 200 }) G cy S sz [.ref mo, .int (a1), .int (a2)] (fun (r : Int32) (S9 : PS) => r = -1) := by
  refine ent_m (cc := cX12_run) (maxL := 5) (ret := (some .int)) (by decide) rfl (Nat.le_of_ble_eq_true rfl) ?_
  intro p e s m below meth c ls X hr hlocks hin hw hl hsz
  subst hsz
  have X : Cx p c cX12_run 5 s [.ref mo, .int (a1), .int (a2)].toArray wsX12_run RX12 m G cy (AS S s.heap.size) := X
  have hl : lv_has ls 5 [(0, .ref mo), (1, .int (a1)), (2, .int (a2))] := hl
  obtain ⟨hat_mo, hci, ci_1229, hars, hz53, hz39⟩ := hF
  have ci_1211 := hci 1211 (by decide)
  refine lv_aload_n X.1 X.2.1 dX12_run_0 rfl (lv_at hl 0 rfl) ?_
  refine lv_iconst (v := 0) X.1 X.2.1 dX12_run_1 (by decide) ?_
  refine r_putI (v := 0) X hw hat_mo 0 1200 tyX12 (by decide) rfl inn_X12_run_12 tyX12_ok nmX12 (by decide) (X.2.2.2.1 (.fieldLink RX12 161 "SilkMillModel" "thrown" "I") (by decide +kernel)) rfl (Or.inl rfl) rfl rfl (Nat.le_of_ble_eq_true rfl) (st_1200 _ _) dX12_run_2 (fun H locs hw => ?_)
  generalize eS_1 : sI S 1200 mo 0 = S_1 at hw
  have hat_mo : At S_1 mo 12 := by rw [← eS_1]; exact At_sI hat_mo
  have ci_1211 : pI S_1 1211 mo = 0 := by rw [← eS_1]; exact (pI_sI_nf (by decide)).trans ci_1211
  have hc_2 : pI S_1 1200 mo = 0 := by rw [← eS_1]; exact pI_sI_same
  refine lv_aload_n X.1 X.2.1 dX12_run_5 rfl (lv_at hl 0 rfl) ?_
  refine lv_iload_n X.1 X.2.1 dX12_run_6 rfl (lv_at hl 1 rfl) ?_
  refine k_i (rm := { frames := 3, cells := 0, slots := 0, locals := 120 }) (av := [.ref mo, .int (a1)]) X hw (va_runV (As := [.int (a1)]) (rest := []) (cfix X) (c_X12_isPot l G cy S_1 _ mo (a1) hat_mo ci_1211) (cwV 1 X.2.2.2.1 gX12_run_X12_isPot rfl rfl rfl (by decide +kernel) ⟨Nat.le_of_ble_eq_true rfl, Nat.le_of_ble_eq_true rfl⟩) (pre_V X hw _ hat_mo (by decide) rfl) rfl rfl hl.1 rfl (lv_room (Nat.le_of_ble_eq_true rfl)) dX12_run_7 ⟨Nat.le_of_ble_eq_true rfl, Nat.le_of_ble_eq_true rfl⟩) 0 0 (Nat.le_of_ble_eq_true rfl) (Nat.le_of_ble_eq_true rfl) (fun rr_7 S2 H locs hp hw hfr hnw => ?_)
  obtain ⟨e2_7, er_7⟩ := hp
  subst e2_7
  subst er_7
  refine lv_if_eq (tgt := 24) X.1 X.2.1 dX12_run_10 (by decide) (fun c_10 => ?_) (fun c_10 => absurd c_10 (by decide))
  refine lv_iconst (v := (-1)) X.1 X.2.1 dX12_run_24 (by decide) ?_
  exact ret_i X hw hr hlocks (Nat.le_of_ble_eq_true rfl) (Nat.le_of_ble_eq_true rfl) rfl dX12_run_25
set_option maxHeartbeats 4000000 in
set_option maxRecDepth 100000 in
theorem c_X12_about (l : Launch) (G : va_G) (cy : Nat → ClassId) (S : PS) (sz : Nat) (mo : Nat) (a1 : Int32) (a2 : Int32) (hF : FM S mo) : Ci l yX12_about wsX12_about ({ frames := 5, cells := 0, slots := 0, locals := 200 }) G cy S sz [.ref mo, .int (a1), .int (a2)] (fun (r : Int32) (S9 : PS) => r = -1) := by
  refine ent_m (cc := cX12_about) (maxL := 3) (ret := (some .int)) (by decide) rfl (Nat.le_of_ble_eq_true rfl) ?_
  intro p e s m below meth c ls X hr hlocks hin hw hl hsz
  subst hsz
  have X : Cx p c cX12_about 3 s [.ref mo, .int (a1), .int (a2)].toArray wsX12_about RX12 m G cy (AS S s.heap.size) := X
  have hl : lv_has ls 3 [(0, .ref mo), (1, .int (a1)), (2, .int (a2))] := hl
  obtain ⟨hat_mo, hci, ci_1229, hars, hz53, hz39⟩ := hF
  have ci_1211 := hci 1211 (by decide)
  refine lv_aload_n X.1 X.2.1 dX12_about_0 rfl (lv_at hl 0 rfl) ?_
  refine lv_iconst (v := 0) X.1 X.2.1 dX12_about_1 (by decide) ?_
  refine r_putI (v := 0) X hw hat_mo 0 1200 tyX12 (by decide) rfl inn_X12_about_12 tyX12_ok nmX12 (by decide) (X.2.2.2.1 (.fieldLink RX12 161 "SilkMillModel" "thrown" "I") (by decide +kernel)) rfl (Or.inl rfl) rfl rfl (Nat.le_of_ble_eq_true rfl) (st_1200 _ _) dX12_about_2 (fun H locs hw => ?_)
  generalize eS_1 : sI S 1200 mo 0 = S_1 at hw
  have hat_mo : At S_1 mo 12 := by rw [← eS_1]; exact At_sI hat_mo
  have ci_1211 : pI S_1 1211 mo = 0 := by rw [← eS_1]; exact (pI_sI_nf (by decide)).trans ci_1211
  have hc_2 : pI S_1 1200 mo = 0 := by rw [← eS_1]; exact pI_sI_same
  refine lv_aload_n X.1 X.2.1 dX12_about_5 rfl (lv_at hl 0 rfl) ?_
  refine lv_iload_n X.1 X.2.1 dX12_about_6 rfl (lv_at hl 1 rfl) ?_
  refine k_i (rm := { frames := 3, cells := 0, slots := 0, locals := 120 }) (av := [.ref mo, .int (a1)]) X hw (va_runV (As := [.int (a1)]) (rest := []) (cfix X) (c_X12_isPot l G cy S_1 _ mo (a1) hat_mo ci_1211) (cwV 1 X.2.2.2.1 gX12_about_X12_isPot rfl rfl rfl (by decide +kernel) ⟨Nat.le_of_ble_eq_true rfl, Nat.le_of_ble_eq_true rfl⟩) (pre_V X hw _ hat_mo (by decide) rfl) rfl rfl hl.1 rfl (lv_room (Nat.le_of_ble_eq_true rfl)) dX12_about_7 ⟨Nat.le_of_ble_eq_true rfl, Nat.le_of_ble_eq_true rfl⟩) 0 0 (Nat.le_of_ble_eq_true rfl) (Nat.le_of_ble_eq_true rfl) (fun rr_7 S2 H locs hp hw hfr hnw => ?_)
  obtain ⟨e2_7, er_7⟩ := hp
  subst e2_7
  subst er_7
  refine lv_if_ne (tgt := 15) X.1 X.2.1 dX12_about_10 (by decide) (fun c_10 => absurd c_10 (by decide)) (fun c_10 => ?_)
  refine lv_iconst (v := (-1)) X.1 X.2.1 dX12_about_13 (by decide) ?_
  exact ret_i X hw hr hlocks (Nat.le_of_ble_eq_true rfl) (Nat.le_of_ble_eq_true rfl) rfl dX12_about_14
set_option maxHeartbeats 4000000 in
set_option maxRecDepth 100000 in
theorem c_X12_cut (l : Launch) (G : va_G) (cy : Nat → ClassId) (S : PS) (sz : Nat) (mo : Nat) (a1 : Int32) (hF : FM S mo) : Ci l yX12_cut wsX12_cut ({ frames := 5, cells := 0, slots := 0, locals := 200 }) G cy S sz [.ref mo, .int (a1)] (fun (r : Int32) (S9 : PS) => r = -1) := by
  refine ent_m (cc := cX12_cut) (maxL := 2) (ret := (some .int)) (by decide) rfl (Nat.le_of_ble_eq_true rfl) ?_
  intro p e s m below meth c ls X hr hlocks hin hw hl hsz
  subst hsz
  have X : Cx p c cX12_cut 2 s [.ref mo, .int (a1)].toArray wsX12_cut RX12 m G cy (AS S s.heap.size) := X
  have hl : lv_has ls 2 [(0, .ref mo), (1, .int (a1))] := hl
  obtain ⟨hat_mo, hci, ci_1229, hars, hz53, hz39⟩ := hF
  have ci_1211 := hci 1211 (by decide)
  refine lv_aload_n X.1 X.2.1 dX12_cut_0 rfl (lv_at hl 0 rfl) ?_
  refine lv_iconst (v := 0) X.1 X.2.1 dX12_cut_1 (by decide) ?_
  refine r_putI (v := 0) X hw hat_mo 0 1200 tyX12 (by decide) rfl inn_X12_cut_12 tyX12_ok nmX12 (by decide) (X.2.2.2.1 (.fieldLink RX12 161 "SilkMillModel" "thrown" "I") (by decide +kernel)) rfl (Or.inl rfl) rfl rfl (Nat.le_of_ble_eq_true rfl) (st_1200 _ _) dX12_cut_2 (fun H locs hw => ?_)
  generalize eS_1 : sI S 1200 mo 0 = S_1 at hw
  have hat_mo : At S_1 mo 12 := by rw [← eS_1]; exact At_sI hat_mo
  have ci_1211 : pI S_1 1211 mo = 0 := by rw [← eS_1]; exact (pI_sI_nf (by decide)).trans ci_1211
  have hc_2 : pI S_1 1200 mo = 0 := by rw [← eS_1]; exact pI_sI_same
  refine lv_aload_n X.1 X.2.1 dX12_cut_5 rfl (lv_at hl 0 rfl) ?_
  refine lv_iload_n X.1 X.2.1 dX12_cut_6 rfl (lv_at hl 1 rfl) ?_
  refine k_i (rm := { frames := 3, cells := 0, slots := 0, locals := 120 }) (av := [.ref mo, .int (a1)]) X hw (va_runV (As := [.int (a1)]) (rest := []) (cfix X) (c_X12_isPot l G cy S_1 _ mo (a1) hat_mo ci_1211) (cwV 1 X.2.2.2.1 gX12_cut_X12_isPot rfl rfl rfl (by decide +kernel) ⟨Nat.le_of_ble_eq_true rfl, Nat.le_of_ble_eq_true rfl⟩) (pre_V X hw _ hat_mo (by decide) rfl) rfl rfl hl.1 rfl (lv_room (Nat.le_of_ble_eq_true rfl)) dX12_cut_7 ⟨Nat.le_of_ble_eq_true rfl, Nat.le_of_ble_eq_true rfl⟩) 0 0 (Nat.le_of_ble_eq_true rfl) (Nat.le_of_ble_eq_true rfl) (fun rr_7 S2 H locs hp hw hfr hnw => ?_)
  obtain ⟨e2_7, er_7⟩ := hp
  subst e2_7
  subst er_7
  refine lv_if_eq (tgt := 21) X.1 X.2.1 dX12_cut_10 (by decide) (fun c_10 => ?_) (fun c_10 => absurd c_10 (by decide))
  refine lv_iconst (v := (-1)) X.1 X.2.1 dX12_cut_21 (by decide) ?_
  exact ret_i X hw hr hlocks (Nat.le_of_ble_eq_true rfl) (Nat.le_of_ble_eq_true rfl) rfl dX12_cut_22
set_option maxHeartbeats 4000000 in
set_option maxRecDepth 100000 in
theorem c_X12_skein (l : Launch) (G : va_G) (cy : Nat → ClassId) (S : PS) (sz : Nat) (mo : Nat) (a1 : Int32) (a2 : Int32) (hF : FM S mo) : Ci l yX12_skein wsX12_skein ({ frames := 5, cells := 0, slots := 0, locals := 200 }) G cy S sz [.ref mo, .int (a1), .int (a2)] (fun (r : Int32) (S9 : PS) => r = -1) := by
  refine ent_m (cc := cX12_skein) (maxL := 3) (ret := (some .int)) (by decide) rfl (Nat.le_of_ble_eq_true rfl) ?_
  intro p e s m below meth c ls X hr hlocks hin hw hl hsz
  subst hsz
  have X : Cx p c cX12_skein 3 s [.ref mo, .int (a1), .int (a2)].toArray wsX12_skein RX12 m G cy (AS S s.heap.size) := X
  have hl : lv_has ls 3 [(0, .ref mo), (1, .int (a1)), (2, .int (a2))] := hl
  obtain ⟨hat_mo, hci, ci_1229, hars, hz53, hz39⟩ := hF
  have ci_1238 := hci 1238 (by decide)
  refine lv_aload_n X.1 X.2.1 dX12_skein_0 rfl (lv_at hl 0 rfl) ?_
  refine lv_iconst (v := 0) X.1 X.2.1 dX12_skein_1 (by decide) ?_
  refine r_putI (v := 0) X hw hat_mo 0 1200 tyX12 (by decide) rfl inn_X12_skein_12 tyX12_ok nmX12 (by decide) (X.2.2.2.1 (.fieldLink RX12 161 "SilkMillModel" "thrown" "I") (by decide +kernel)) rfl (Or.inl rfl) rfl rfl (Nat.le_of_ble_eq_true rfl) (st_1200 _ _) dX12_skein_2 (fun H locs hw => ?_)
  generalize eS_1 : sI S 1200 mo 0 = S_1 at hw
  have hat_mo : At S_1 mo 12 := by rw [← eS_1]; exact At_sI hat_mo
  have ci_1238 : pI S_1 1238 mo = 0 := by rw [← eS_1]; exact (pI_sI_nf (by decide)).trans ci_1238
  have hc_2 : pI S_1 1200 mo = 0 := by rw [← eS_1]; exact pI_sI_same
  refine lv_aload_n X.1 X.2.1 dX12_skein_5 rfl (lv_at hl 0 rfl) ?_
  refine lv_iload_n X.1 X.2.1 dX12_skein_6 rfl (lv_at hl 1 rfl) ?_
  refine k_i (rm := { frames := 3, cells := 0, slots := 0, locals := 120 }) (av := [.ref mo, .int (a1)]) X hw (va_runV (As := [.int (a1)]) (rest := []) (cfix X) (c_X12_isSkein l G cy S_1 _ mo (a1) hat_mo ci_1238) (cwV 1 X.2.2.2.1 gX12_skein_X12_isSkein rfl rfl rfl (by decide +kernel) ⟨Nat.le_of_ble_eq_true rfl, Nat.le_of_ble_eq_true rfl⟩) (pre_V X hw _ hat_mo (by decide) rfl) rfl rfl hl.1 rfl (lv_room (Nat.le_of_ble_eq_true rfl)) dX12_skein_7 ⟨Nat.le_of_ble_eq_true rfl, Nat.le_of_ble_eq_true rfl⟩) 0 0 (Nat.le_of_ble_eq_true rfl) (Nat.le_of_ble_eq_true rfl) (fun rr_7 S2 H locs hp hw hfr hnw => ?_)
  obtain ⟨e2_7, er_7⟩ := hp
  subst e2_7
  subst er_7
  refine lv_if_ne (tgt := 15) X.1 X.2.1 dX12_skein_10 (by decide) (fun c_10 => absurd c_10 (by decide)) (fun c_10 => ?_)
  refine lv_iconst (v := (-1)) X.1 X.2.1 dX12_skein_13 (by decide) ?_
  exact ret_i X hw hr hlocks (Nat.le_of_ble_eq_true rfl) (Nat.le_of_ble_eq_true rfl) rfl dX12_skein_14
set_option maxHeartbeats 4000000 in
set_option maxRecDepth 100000 in
theorem c_X12_metre (l : Launch) (G : va_G) (cy : Nat → ClassId) (S : PS) (sz : Nat) (mo : Nat) (a1 : Int32) (a2 : Int32) (a3 : Int32) (hF : FM S mo) : Ci l yX12_metre wsX12_metre ({ frames := 5, cells := 0, slots := 0, locals := 200 }) G cy S sz [.ref mo, .int (a1), .int (a2), .int (a3)] (fun (r : Int32) (S9 : PS) => r = -1) := by
  refine ent_m (cc := cX12_metre) (maxL := 4) (ret := (some .int)) (by decide) rfl (Nat.le_of_ble_eq_true rfl) ?_
  intro p e s m below meth c ls X hr hlocks hin hw hl hsz
  subst hsz
  have X : Cx p c cX12_metre 4 s [.ref mo, .int (a1), .int (a2), .int (a3)].toArray wsX12_metre RX12 m G cy (AS S s.heap.size) := X
  have hl : lv_has ls 4 [(0, .ref mo), (1, .int (a1)), (2, .int (a2)), (3, .int (a3))] := hl
  obtain ⟨hat_mo, hci, ci_1229, hars, hz53, hz39⟩ := hF
  have ci_1238 := hci 1238 (by decide)
  refine lv_aload_n X.1 X.2.1 dX12_metre_0 rfl (lv_at hl 0 rfl) ?_
  refine lv_iconst (v := 0) X.1 X.2.1 dX12_metre_1 (by decide) ?_
  refine r_putI (v := 0) X hw hat_mo 0 1200 tyX12 (by decide) rfl inn_X12_metre_12 tyX12_ok nmX12 (by decide) (X.2.2.2.1 (.fieldLink RX12 161 "SilkMillModel" "thrown" "I") (by decide +kernel)) rfl (Or.inl rfl) rfl rfl (Nat.le_of_ble_eq_true rfl) (st_1200 _ _) dX12_metre_2 (fun H locs hw => ?_)
  generalize eS_1 : sI S 1200 mo 0 = S_1 at hw
  have hat_mo : At S_1 mo 12 := by rw [← eS_1]; exact At_sI hat_mo
  have ci_1238 : pI S_1 1238 mo = 0 := by rw [← eS_1]; exact (pI_sI_nf (by decide)).trans ci_1238
  have hc_2 : pI S_1 1200 mo = 0 := by rw [← eS_1]; exact pI_sI_same
  refine lv_aload_n X.1 X.2.1 dX12_metre_5 rfl (lv_at hl 0 rfl) ?_
  refine lv_iload_n X.1 X.2.1 dX12_metre_6 rfl (lv_at hl 1 rfl) ?_
  refine k_i (rm := { frames := 3, cells := 0, slots := 0, locals := 120 }) (av := [.ref mo, .int (a1)]) X hw (va_runV (As := [.int (a1)]) (rest := []) (cfix X) (c_X12_isSkein l G cy S_1 _ mo (a1) hat_mo ci_1238) (cwV 1 X.2.2.2.1 gX12_metre_X12_isSkein rfl rfl rfl (by decide +kernel) ⟨Nat.le_of_ble_eq_true rfl, Nat.le_of_ble_eq_true rfl⟩) (pre_V X hw _ hat_mo (by decide) rfl) rfl rfl hl.1 rfl (lv_room (Nat.le_of_ble_eq_true rfl)) dX12_metre_7 ⟨Nat.le_of_ble_eq_true rfl, Nat.le_of_ble_eq_true rfl⟩) 0 0 (Nat.le_of_ble_eq_true rfl) (Nat.le_of_ble_eq_true rfl) (fun rr_7 S2 H locs hp hw hfr hnw => ?_)
  obtain ⟨e2_7, er_7⟩ := hp
  subst e2_7
  subst er_7
  refine lv_if_eq (tgt := 28) X.1 X.2.1 dX12_metre_10 (by decide) (fun c_10 => ?_) (fun c_10 => absurd c_10 (by decide))
  refine lv_iconst (v := (-1)) X.1 X.2.1 dX12_metre_28 (by decide) ?_
  exact ret_i X hw hr hlocks (Nat.le_of_ble_eq_true rfl) (Nat.le_of_ble_eq_true rfl) rfl dX12_metre_29
set_option maxHeartbeats 4000000 in
set_option maxRecDepth 100000 in
theorem c_X12_piece (l : Launch) (G : va_G) (cy : Nat → ClassId) (S : PS) (sz : Nat) (mo : Nat) (a1 : Int32) (a2 : Int32) (a3 : Int32) (hF : FM S mo) : Ci l yX12_piece wsX12_piece ({ frames := 5, cells := 0, slots := 0, locals := 200 }) G cy S sz [.ref mo, .int (a1), .int (a2), .int (a3)] (fun (r : Int32) (S9 : PS) => r = -1) := by
  refine ent_m (cc := cX12_piece) (maxL := 7) (ret := (some .int)) (by decide) rfl (Nat.le_of_ble_eq_true rfl) ?_
  intro p e s m below meth c ls X hr hlocks hin hw hl hsz
  subst hsz
  have X : Cx p c cX12_piece 7 s [.ref mo, .int (a1), .int (a2), .int (a3)].toArray wsX12_piece RX12 m G cy (AS S s.heap.size) := X
  have hl : lv_has ls 7 [(0, .ref mo), (1, .int (a1)), (2, .int (a2)), (3, .int (a3))] := hl
  obtain ⟨hat_mo, hci, ci_1229, hars, hz53, hz39⟩ := hF
  have ci_1238 := hci 1238 (by decide)
  refine lv_aload_n X.1 X.2.1 dX12_piece_0 rfl (lv_at hl 0 rfl) ?_
  refine lv_iconst (v := 0) X.1 X.2.1 dX12_piece_1 (by decide) ?_
  refine r_putI (v := 0) X hw hat_mo 0 1200 tyX12 (by decide) rfl inn_X12_piece_12 tyX12_ok nmX12 (by decide) (X.2.2.2.1 (.fieldLink RX12 161 "SilkMillModel" "thrown" "I") (by decide +kernel)) rfl (Or.inl rfl) rfl rfl (Nat.le_of_ble_eq_true rfl) (st_1200 _ _) dX12_piece_2 (fun H locs hw => ?_)
  generalize eS_1 : sI S 1200 mo 0 = S_1 at hw
  have hat_mo : At S_1 mo 12 := by rw [← eS_1]; exact At_sI hat_mo
  have ci_1238 : pI S_1 1238 mo = 0 := by rw [← eS_1]; exact (pI_sI_nf (by decide)).trans ci_1238
  have hc_2 : pI S_1 1200 mo = 0 := by rw [← eS_1]; exact pI_sI_same
  refine lv_aload_n X.1 X.2.1 dX12_piece_5 rfl (lv_at hl 0 rfl) ?_
  refine lv_iload_n X.1 X.2.1 dX12_piece_6 rfl (lv_at hl 1 rfl) ?_
  refine k_i (rm := { frames := 3, cells := 0, slots := 0, locals := 120 }) (av := [.ref mo, .int (a1)]) X hw (va_runV (As := [.int (a1)]) (rest := []) (cfix X) (c_X12_isSkein l G cy S_1 _ mo (a1) hat_mo ci_1238) (cwV 1 X.2.2.2.1 gX12_piece_X12_isSkein rfl rfl rfl (by decide +kernel) ⟨Nat.le_of_ble_eq_true rfl, Nat.le_of_ble_eq_true rfl⟩) (pre_V X hw _ hat_mo (by decide) rfl) rfl rfl hl.1 rfl (lv_room (Nat.le_of_ble_eq_true rfl)) dX12_piece_7 ⟨Nat.le_of_ble_eq_true rfl, Nat.le_of_ble_eq_true rfl⟩) 0 0 (Nat.le_of_ble_eq_true rfl) (Nat.le_of_ble_eq_true rfl) (fun rr_7 S2 H locs hp hw hfr hnw => ?_)
  obtain ⟨e2_7, er_7⟩ := hp
  subst e2_7
  subst er_7
  refine lv_if_eq (tgt := 26) X.1 X.2.1 dX12_piece_10 (by decide) (fun c_10 => ?_) (fun c_10 => absurd c_10 (by decide))
  refine lv_iconst (v := (-1)) X.1 X.2.1 dX12_piece_26 (by decide) ?_
  exact ret_i X hw hr hlocks (Nat.le_of_ble_eq_true rfl) (Nat.le_of_ble_eq_true rfl) rfl dX12_piece_27
set_option maxHeartbeats 4000000 in
set_option maxRecDepth 100000 in
theorem c_X12_grade (l : Launch) (G : va_G) (cy : Nat → ClassId) (S : PS) (sz : Nat) (mo : Nat) (a1 : Int32) (a2 : Int32) (a3 : Int32) (hF : FM S mo) : Ci l yX12_grade wsX12_grade ({ frames := 5, cells := 0, slots := 0, locals := 200 }) G cy S sz [.ref mo, .int (a1), .int (a2), .int (a3)] (fun (r : Int32) (S9 : PS) => r = -1) := by
  refine ent_m (cc := cX12_grade) (maxL := 8) (ret := (some .int)) (by decide) rfl (Nat.le_of_ble_eq_true rfl) ?_
  intro p e s m below meth c ls X hr hlocks hin hw hl hsz
  subst hsz
  have X : Cx p c cX12_grade 8 s [.ref mo, .int (a1), .int (a2), .int (a3)].toArray wsX12_grade RX12 m G cy (AS S s.heap.size) := X
  have hl : lv_has ls 8 [(0, .ref mo), (1, .int (a1)), (2, .int (a2)), (3, .int (a3))] := hl
  obtain ⟨hat_mo, hci, ci_1229, hars, hz53, hz39⟩ := hF
  have ci_1238 := hci 1238 (by decide)
  refine lv_aload_n X.1 X.2.1 dX12_grade_0 rfl (lv_at hl 0 rfl) ?_
  refine lv_iconst (v := 0) X.1 X.2.1 dX12_grade_1 (by decide) ?_
  refine r_putI (v := 0) X hw hat_mo 0 1200 tyX12 (by decide) rfl inn_X12_grade_12 tyX12_ok nmX12 (by decide) (X.2.2.2.1 (.fieldLink RX12 161 "SilkMillModel" "thrown" "I") (by decide +kernel)) rfl (Or.inl rfl) rfl rfl (Nat.le_of_ble_eq_true rfl) (st_1200 _ _) dX12_grade_2 (fun H locs hw => ?_)
  generalize eS_1 : sI S 1200 mo 0 = S_1 at hw
  have hat_mo : At S_1 mo 12 := by rw [← eS_1]; exact At_sI hat_mo
  have ci_1238 : pI S_1 1238 mo = 0 := by rw [← eS_1]; exact (pI_sI_nf (by decide)).trans ci_1238
  have hc_2 : pI S_1 1200 mo = 0 := by rw [← eS_1]; exact pI_sI_same
  refine lv_aload_n X.1 X.2.1 dX12_grade_5 rfl (lv_at hl 0 rfl) ?_
  refine lv_iload_n X.1 X.2.1 dX12_grade_6 rfl (lv_at hl 1 rfl) ?_
  refine k_i (rm := { frames := 3, cells := 0, slots := 0, locals := 120 }) (av := [.ref mo, .int (a1)]) X hw (va_runV (As := [.int (a1)]) (rest := []) (cfix X) (c_X12_isSkein l G cy S_1 _ mo (a1) hat_mo ci_1238) (cwV 1 X.2.2.2.1 gX12_grade_X12_isSkein rfl rfl rfl (by decide +kernel) ⟨Nat.le_of_ble_eq_true rfl, Nat.le_of_ble_eq_true rfl⟩) (pre_V X hw _ hat_mo (by decide) rfl) rfl rfl hl.1 rfl (lv_room (Nat.le_of_ble_eq_true rfl)) dX12_grade_7 ⟨Nat.le_of_ble_eq_true rfl, Nat.le_of_ble_eq_true rfl⟩) 0 0 (Nat.le_of_ble_eq_true rfl) (Nat.le_of_ble_eq_true rfl) (fun rr_7 S2 H locs hp hw hfr hnw => ?_)
  obtain ⟨e2_7, er_7⟩ := hp
  subst e2_7
  subst er_7
  refine lv_if_eq (tgt := 31) X.1 X.2.1 dX12_grade_10 (by decide) (fun c_10 => ?_) (fun c_10 => absurd c_10 (by decide))
  refine lv_iconst (v := (-1)) X.1 X.2.1 dX12_grade_31 (by decide) ?_
  exact ret_i X hw hr hlocks (Nat.le_of_ble_eq_true rfl) (Nat.le_of_ble_eq_true rfl) rfl dX12_grade_32
set_option maxHeartbeats 4000000 in
set_option maxRecDepth 100000 in
theorem c_X12_drawn (l : Launch) (G : va_G) (cy : Nat → ClassId) (S : PS) (sz : Nat) (mo : Nat) (a1 : Int32) (hF : FM S mo) : Ci l yX12_drawn wsX12_drawn ({ frames := 5, cells := 0, slots := 0, locals := 200 }) G cy S sz [.ref mo, .int (a1)] (fun (r : Int32) (S9 : PS) => r = -1) := by
  refine ent_m (cc := cX12_drawn) (maxL := 2) (ret := (some .int)) (by decide) rfl (Nat.le_of_ble_eq_true rfl) ?_
  intro p e s m below meth c ls X hr hlocks hin hw hl hsz
  subst hsz
  have X : Cx p c cX12_drawn 2 s [.ref mo, .int (a1)].toArray wsX12_drawn RX12 m G cy (AS S s.heap.size) := X
  have hl : lv_has ls 2 [(0, .ref mo), (1, .int (a1))] := hl
  obtain ⟨hat_mo, hci, ci_1229, hars, hz53, hz39⟩ := hF
  have ci_1251 := hci 1251 (by decide)
  refine lv_aload_n X.1 X.2.1 dX12_drawn_0 rfl (lv_at hl 0 rfl) ?_
  refine lv_iconst (v := 0) X.1 X.2.1 dX12_drawn_1 (by decide) ?_
  refine r_putI (v := 0) X hw hat_mo 0 1200 tyX12 (by decide) rfl inn_X12_drawn_12 tyX12_ok nmX12 (by decide) (X.2.2.2.1 (.fieldLink RX12 161 "SilkMillModel" "thrown" "I") (by decide +kernel)) rfl (Or.inl rfl) rfl rfl (Nat.le_of_ble_eq_true rfl) (st_1200 _ _) dX12_drawn_2 (fun H locs hw => ?_)
  generalize eS_1 : sI S 1200 mo 0 = S_1 at hw
  have hat_mo : At S_1 mo 12 := by rw [← eS_1]; exact At_sI hat_mo
  have ci_1251 : pI S_1 1251 mo = 0 := by rw [← eS_1]; exact (pI_sI_nf (by decide)).trans ci_1251
  have hc_2 : pI S_1 1200 mo = 0 := by rw [← eS_1]; exact pI_sI_same
  refine lv_aload_n X.1 X.2.1 dX12_drawn_5 rfl (lv_at hl 0 rfl) ?_
  refine r_get (v := .int 0) X hw hat_mo 51 (by decide) rfl inn_X12_drawn_12 (by decide) (X.2.2.2.1 (.fieldLink RX12 388 "SilkMillModel" "draws" "I") (by decide +kernel)) rfl ((gv_1251 _ _).trans (congrArg (fun z => some (Value.int z)) ci_1251)) dX12_drawn_6 ?_
  refine lv_if_eq (tgt := 26) X.1 X.2.1 dX12_drawn_9 (by decide) (fun c_9 => ?_) (fun c_9 => absurd c_9 (by decide))
  refine lv_iconst (v := (-1)) X.1 X.2.1 dX12_drawn_26 (by decide) ?_
  exact ret_i X hw hr hlocks (Nat.le_of_ble_eq_true rfl) (Nat.le_of_ble_eq_true rfl) rfl dX12_drawn_27
set_option maxHeartbeats 4000000 in
set_option maxRecDepth 100000 in
theorem c_X12_mixed (l : Launch) (G : va_G) (cy : Nat → ClassId) (S : PS) (sz : Nat) (mo : Nat) (a1 : Int32) (hF : FM S mo) : Ci l yX12_mixed wsX12_mixed ({ frames := 5, cells := 0, slots := 0, locals := 200 }) G cy S sz [.ref mo, .int (a1)] (fun (r : Int32) (S9 : PS) => r = 0) := by
  refine ent_m (cc := cX12_mixed) (maxL := 2) (ret := (some .boolean)) (by decide) rfl (Nat.le_of_ble_eq_true rfl) ?_
  intro p e s m below meth c ls X hr hlocks hin hw hl hsz
  subst hsz
  have X : Cx p c cX12_mixed 2 s [.ref mo, .int (a1)].toArray wsX12_mixed RX12 m G cy (AS S s.heap.size) := X
  have hl : lv_has ls 2 [(0, .ref mo), (1, .int (a1))] := hl
  obtain ⟨hat_mo, hci, ci_1229, hars, hz53, hz39⟩ := hF
  have ci_1238 := hci 1238 (by decide)
  refine lv_aload_n X.1 X.2.1 dX12_mixed_0 rfl (lv_at hl 0 rfl) ?_
  refine lv_iconst (v := 0) X.1 X.2.1 dX12_mixed_1 (by decide) ?_
  refine r_putI (v := 0) X hw hat_mo 0 1200 tyX12 (by decide) rfl inn_X12_mixed_12 tyX12_ok nmX12 (by decide) (X.2.2.2.1 (.fieldLink RX12 161 "SilkMillModel" "thrown" "I") (by decide +kernel)) rfl (Or.inl rfl) rfl rfl (Nat.le_of_ble_eq_true rfl) (st_1200 _ _) dX12_mixed_2 (fun H locs hw => ?_)
  generalize eS_1 : sI S 1200 mo 0 = S_1 at hw
  have hat_mo : At S_1 mo 12 := by rw [← eS_1]; exact At_sI hat_mo
  have ci_1238 : pI S_1 1238 mo = 0 := by rw [← eS_1]; exact (pI_sI_nf (by decide)).trans ci_1238
  have hc_2 : pI S_1 1200 mo = 0 := by rw [← eS_1]; exact pI_sI_same
  refine lv_aload_n X.1 X.2.1 dX12_mixed_5 rfl (lv_at hl 0 rfl) ?_
  refine lv_iload_n X.1 X.2.1 dX12_mixed_6 rfl (lv_at hl 1 rfl) ?_
  refine k_i (rm := { frames := 3, cells := 0, slots := 0, locals := 120 }) (av := [.ref mo, .int (a1)]) X hw (va_runV (As := [.int (a1)]) (rest := []) (cfix X) (c_X12_isSkein l G cy S_1 _ mo (a1) hat_mo ci_1238) (cwV 1 X.2.2.2.1 gX12_mixed_X12_isSkein rfl rfl rfl (by decide +kernel) ⟨Nat.le_of_ble_eq_true rfl, Nat.le_of_ble_eq_true rfl⟩) (pre_V X hw _ hat_mo (by decide) rfl) rfl rfl hl.1 rfl (lv_room (Nat.le_of_ble_eq_true rfl)) dX12_mixed_7 ⟨Nat.le_of_ble_eq_true rfl, Nat.le_of_ble_eq_true rfl⟩) 0 0 (Nat.le_of_ble_eq_true rfl) (Nat.le_of_ble_eq_true rfl) (fun rr_7 S2 H locs hp hw hfr hnw => ?_)
  obtain ⟨e2_7, er_7⟩ := hp
  subst e2_7
  subst er_7
  refine lv_if_eq (tgt := 26) X.1 X.2.1 dX12_mixed_10 (by decide) (fun c_10 => ?_) (fun c_10 => absurd c_10 (by decide))
  refine lv_iconst (v := 0) X.1 X.2.1 dX12_mixed_26 (by decide) ?_
  exact ret_z X hw hr hlocks (Nat.le_of_ble_eq_true rfl) (Nat.le_of_ble_eq_true rfl) (by decide) rfl dX12_mixed_27
set_option maxHeartbeats 4000000 in
set_option maxRecDepth 100000 in
theorem c_X12_fault (l : Launch) (G : va_G) (cy : Nat → ClassId) (S : PS) (sz : Nat) (mo : Nat) (a1 : Int32) (a2 : Int32) (hF : FM S mo) : Ci l yX12_fault wsX12_fault ({ frames := 5, cells := 0, slots := 0, locals := 200 }) G cy S sz [.ref mo, .int (a1), .int (a2)] (fun (r : Int32) (S9 : PS) => r = 0) := by
  refine ent_m (cc := cX12_fault) (maxL := 3) (ret := (some .boolean)) (by decide) rfl (Nat.le_of_ble_eq_true rfl) ?_
  intro p e s m below meth c ls X hr hlocks hin hw hl hsz
  subst hsz
  have X : Cx p c cX12_fault 3 s [.ref mo, .int (a1), .int (a2)].toArray wsX12_fault RX12 m G cy (AS S s.heap.size) := X
  have hl : lv_has ls 3 [(0, .ref mo), (1, .int (a1)), (2, .int (a2))] := hl
  obtain ⟨hat_mo, hci, ci_1229, hars, hz53, hz39⟩ := hF
  have ci_1238 := hci 1238 (by decide)
  refine lv_aload_n X.1 X.2.1 dX12_fault_0 rfl (lv_at hl 0 rfl) ?_
  refine lv_iconst (v := 0) X.1 X.2.1 dX12_fault_1 (by decide) ?_
  refine r_putI (v := 0) X hw hat_mo 0 1200 tyX12 (by decide) rfl inn_X12_fault_12 tyX12_ok nmX12 (by decide) (X.2.2.2.1 (.fieldLink RX12 161 "SilkMillModel" "thrown" "I") (by decide +kernel)) rfl (Or.inl rfl) rfl rfl (Nat.le_of_ble_eq_true rfl) (st_1200 _ _) dX12_fault_2 (fun H locs hw => ?_)
  generalize eS_1 : sI S 1200 mo 0 = S_1 at hw
  have hat_mo : At S_1 mo 12 := by rw [← eS_1]; exact At_sI hat_mo
  have ci_1238 : pI S_1 1238 mo = 0 := by rw [← eS_1]; exact (pI_sI_nf (by decide)).trans ci_1238
  have hc_2 : pI S_1 1200 mo = 0 := by rw [← eS_1]; exact pI_sI_same
  refine lv_aload_n X.1 X.2.1 dX12_fault_5 rfl (lv_at hl 0 rfl) ?_
  refine lv_iload_n X.1 X.2.1 dX12_fault_6 rfl (lv_at hl 1 rfl) ?_
  refine k_i (rm := { frames := 3, cells := 0, slots := 0, locals := 120 }) (av := [.ref mo, .int (a1)]) X hw (va_runV (As := [.int (a1)]) (rest := []) (cfix X) (c_X12_isSkein l G cy S_1 _ mo (a1) hat_mo ci_1238) (cwV 1 X.2.2.2.1 gX12_fault_X12_isSkein rfl rfl rfl (by decide +kernel) ⟨Nat.le_of_ble_eq_true rfl, Nat.le_of_ble_eq_true rfl⟩) (pre_V X hw _ hat_mo (by decide) rfl) rfl rfl hl.1 rfl (lv_room (Nat.le_of_ble_eq_true rfl)) dX12_fault_7 ⟨Nat.le_of_ble_eq_true rfl, Nat.le_of_ble_eq_true rfl⟩) 0 0 (Nat.le_of_ble_eq_true rfl) (Nat.le_of_ble_eq_true rfl) (fun rr_7 S2 H locs hp hw hfr hnw => ?_)
  obtain ⟨e2_7, er_7⟩ := hp
  subst e2_7
  subst er_7
  refine lv_if_eq (tgt := 33) X.1 X.2.1 dX12_fault_10 (by decide) (fun c_10 => ?_) (fun c_10 => absurd c_10 (by decide))
  refine lv_iconst (v := 0) X.1 X.2.1 dX12_fault_33 (by decide) ?_
  exact ret_z X hw hr hlocks (Nat.le_of_ble_eq_true rfl) (Nat.le_of_ble_eq_true rfl) (by decide) rfl dX12_fault_34
set_option maxHeartbeats 4000000 in
set_option maxRecDepth 100000 in
theorem c_X12_pay (l : Launch) (G : va_G) (cy : Nat → ClassId) (S : PS) (sz : Nat) (mo : Nat) (a1 : Int32) (a2 : Int32) (a3 : Int32) (hF : FM S mo) : Ci l yX12_pay wsX12_pay ({ frames := 5, cells := 0, slots := 0, locals := 200 }) G cy S sz [.ref mo, .int (a1), .int (a2), .int (a3)] (fun (r : Int32) (S9 : PS) => r = 0) := by
  refine ent_m (cc := cX12_pay) (maxL := 6) (ret := (some .int)) (by decide) rfl (Nat.le_of_ble_eq_true rfl) ?_
  intro p e s m below meth c ls X hr hlocks hin hw hl hsz
  subst hsz
  have X : Cx p c cX12_pay 6 s [.ref mo, .int (a1), .int (a2), .int (a3)].toArray wsX12_pay RX12 m G cy (AS S s.heap.size) := X
  have hl : lv_has ls 6 [(0, .ref mo), (1, .int (a1)), (2, .int (a2)), (3, .int (a3))] := hl
  obtain ⟨hat_mo, hci, ci_1229, hars, hz53, hz39⟩ := hF
  have ci_1211 := hci 1211 (by decide)
  refine lv_aload_n X.1 X.2.1 dX12_pay_0 rfl (lv_at hl 0 rfl) ?_
  refine lv_iconst (v := 0) X.1 X.2.1 dX12_pay_1 (by decide) ?_
  refine r_putI (v := 0) X hw hat_mo 0 1200 tyX12 (by decide) rfl inn_X12_pay_12 tyX12_ok nmX12 (by decide) (X.2.2.2.1 (.fieldLink RX12 161 "SilkMillModel" "thrown" "I") (by decide +kernel)) rfl (Or.inl rfl) rfl rfl (Nat.le_of_ble_eq_true rfl) (st_1200 _ _) dX12_pay_2 (fun H locs hw => ?_)
  generalize eS_1 : sI S 1200 mo 0 = S_1 at hw
  have hat_mo : At S_1 mo 12 := by rw [← eS_1]; exact At_sI hat_mo
  have ci_1211 : pI S_1 1211 mo = 0 := by rw [← eS_1]; exact (pI_sI_nf (by decide)).trans ci_1211
  have hc_2 : pI S_1 1200 mo = 0 := by rw [← eS_1]; exact pI_sI_same
  refine lv_aload_n X.1 X.2.1 dX12_pay_5 rfl (lv_at hl 0 rfl) ?_
  refine lv_iload_n X.1 X.2.1 dX12_pay_6 rfl (lv_at hl 1 rfl) ?_
  refine k_i (rm := { frames := 3, cells := 0, slots := 0, locals := 120 }) (av := [.ref mo, .int (a1)]) X hw (va_runV (As := [.int (a1)]) (rest := []) (cfix X) (c_X12_isPot l G cy S_1 _ mo (a1) hat_mo ci_1211) (cwV 1 X.2.2.2.1 gX12_pay_X12_isPot rfl rfl rfl (by decide +kernel) ⟨Nat.le_of_ble_eq_true rfl, Nat.le_of_ble_eq_true rfl⟩) (pre_V X hw _ hat_mo (by decide) rfl) rfl rfl hl.1 rfl (lv_room (Nat.le_of_ble_eq_true rfl)) dX12_pay_7 ⟨Nat.le_of_ble_eq_true rfl, Nat.le_of_ble_eq_true rfl⟩) 0 0 (Nat.le_of_ble_eq_true rfl) (Nat.le_of_ble_eq_true rfl) (fun rr_7 S2 H locs hp hw hfr hnw => ?_)
  obtain ⟨e2_7, er_7⟩ := hp
  subst e2_7
  subst er_7
  refine lv_if_eq (tgt := 37) X.1 X.2.1 dX12_pay_10 (by decide) (fun c_10 => ?_) (fun c_10 => absurd c_10 (by decide))
  refine lv_iconst (v := 0) X.1 X.2.1 dX12_pay_37 (by decide) ?_
  exact ret_i X hw hr hlocks (Nat.le_of_ble_eq_true rfl) (Nat.le_of_ble_eq_true rfl) rfl dX12_pay_38
set_option maxHeartbeats 4000000 in
set_option maxRecDepth 100000 in
theorem c_X12_day (l : Launch) (G : va_G) (cy : Nat → ClassId) (S : PS) (sz : Nat) (mo : Nat) (hF : FM S mo) : Ci l yX12_day wsX12_day ({ frames := 5, cells := 0, slots := 0, locals := 200 }) G cy S sz [.ref mo] (fun (r : Int32) (S9 : PS) => r = 1) := by
  refine ent_m (cc := cX12_day) (maxL := 1) (ret := (some .int)) (by decide) rfl (Nat.le_of_ble_eq_true rfl) ?_
  intro p e s m below meth c ls X hr hlocks hin hw hl hsz
  subst hsz
  have X : Cx p c cX12_day 1 s [.ref mo].toArray wsX12_day RX12 m G cy (AS S s.heap.size) := X
  have hl : lv_has ls 1 [(0, .ref mo)] := hl
  obtain ⟨hat_mo, hci, ci_1229, hars, hz53, hz39⟩ := hF
  have ci_1245 := hci 1245 (by decide)
  refine lv_aload_n X.1 X.2.1 dX12_day_0 rfl (lv_at hl 0 rfl) ?_
  refine lv_iconst (v := 0) X.1 X.2.1 dX12_day_1 (by decide) ?_
  refine r_putI (v := 0) X hw hat_mo 0 1200 tyX12 (by decide) rfl inn_X12_day_12 tyX12_ok nmX12 (by decide) (X.2.2.2.1 (.fieldLink RX12 161 "SilkMillModel" "thrown" "I") (by decide +kernel)) rfl (Or.inl rfl) rfl rfl (Nat.le_of_ble_eq_true rfl) (st_1200 _ _) dX12_day_2 (fun H locs hw => ?_)
  generalize eS_1 : sI S 1200 mo 0 = S_1 at hw
  have hat_mo : At S_1 mo 12 := by rw [← eS_1]; exact At_sI hat_mo
  have ci_1245 : pI S_1 1245 mo = 0 := by rw [← eS_1]; exact (pI_sI_nf (by decide)).trans ci_1245
  have hc_2 : pI S_1 1200 mo = 0 := by rw [← eS_1]; exact pI_sI_same
  refine lv_aload_n X.1 X.2.1 dX12_day_5 rfl (lv_at hl 0 rfl) ?_
  refine lv_dup X.1 X.2.1 dX12_day_6 rfl ?_
  refine r_get (v := .int 0) X hw hat_mo 45 (by decide) rfl inn_X12_day_12 (by decide) (X.2.2.2.1 (.fieldLink RX12 302 "SilkMillModel" "today" "I") (by decide +kernel)) rfl ((gv_1245 _ _).trans (congrArg (fun z => some (Value.int z)) ci_1245)) dX12_day_7 ?_
  refine lv_iconst (v := 1) X.1 X.2.1 dX12_day_10 (by decide) ?_
  refine lv_iadd X.1 X.2.1 dX12_day_11 ?_
  refine lv_topi (fun v_3 ev_3 => ?_)
  obtain rfl : v_3 = 1 := ev_3.trans (by decide +kernel)
  refine r_putI (v := 1) X hw hat_mo 45 1245 tyX12 (by decide) rfl inn_X12_day_12 tyX12_ok nmX12 (by decide) (X.2.2.2.1 (.fieldLink RX12 302 "SilkMillModel" "today" "I") (by decide +kernel)) rfl (Or.inl rfl) rfl rfl (Nat.le_of_ble_eq_true rfl) (st_1245 _ _) dX12_day_12 (fun H locs hw => ?_)
  generalize eS_4 : sI S_1 1245 mo 1 = S_4 at hw
  have hat_mo : At S_4 mo 12 := by rw [← eS_4]; exact At_sI hat_mo
  have hc_2 : pI S_4 1200 mo = 0 := by rw [← eS_4]; exact (pI_sI_nf (by decide)).trans hc_2
  have hc_5 : pI S_4 1245 mo = 1 := by rw [← eS_4]; exact pI_sI_same
  refine lv_aload_n X.1 X.2.1 dX12_day_15 rfl (lv_at hl 0 rfl) ?_
  refine r_get (v := .int 1) X hw hat_mo 45 (by decide) rfl inn_X12_day_12 (by decide) (X.2.2.2.1 (.fieldLink RX12 302 "SilkMillModel" "today" "I") (by decide +kernel)) rfl ((gv_1245 _ _).trans (congrArg (fun z => some (Value.int z)) hc_5)) dX12_day_16 ?_
  exact ret_i X hw hr hlocks (Nat.le_of_ble_eq_true rfl) (Nat.le_of_ble_eq_true rfl) rfl dX12_day_19
set_option maxHeartbeats 4000000 in
set_option maxRecDepth 100000 in
theorem c_X12_end (l : Launch) (G : va_G) (cy : Nat → ClassId) (S : PS) (sz : Nat) (mo : Nat) (a1 : Int32) (hF : FM S mo) : Ci l yX12_end wsX12_end ({ frames := 5, cells := 0, slots := 0, locals := 200 }) G cy S sz [.ref mo, .int (a1)] (fun (r : Int32) (S9 : PS) => r = endV a1) := by
  refine ent_m (cc := cX12_end) (maxL := 2) (ret := (some .int)) (by decide) rfl (Nat.le_of_ble_eq_true rfl) ?_
  intro p e s m below meth c ls X hr hlocks hin hw hl hsz
  subst hsz
  have X : Cx p c cX12_end 2 s [.ref mo, .int (a1)].toArray wsX12_end RX12 m G cy (AS S s.heap.size) := X
  have hl : lv_has ls 2 [(0, .ref mo), (1, .int (a1))] := hl
  obtain ⟨hat_mo, hci, ci_1229, hars, hz53, hz39⟩ := hF
  have ci_1228 := hci 1228 (by decide)
  refine lv_aload_n X.1 X.2.1 dX12_end_0 rfl (lv_at hl 0 rfl) ?_
  refine lv_iconst (v := 0) X.1 X.2.1 dX12_end_1 (by decide) ?_
  refine r_putI (v := 0) X hw hat_mo 0 1200 tyX12 (by decide) rfl inn_X12_end_12 tyX12_ok nmX12 (by decide) (X.2.2.2.1 (.fieldLink RX12 161 "SilkMillModel" "thrown" "I") (by decide +kernel)) rfl (Or.inl rfl) rfl rfl (Nat.le_of_ble_eq_true rfl) (st_1200 _ _) dX12_end_2 (fun H locs hw => ?_)
  generalize eS_1 : sI S 1200 mo 0 = S_1 at hw
  have hat_mo : At S_1 mo 12 := by rw [← eS_1]; exact At_sI hat_mo
  have ci_1228 : pI S_1 1228 mo = 0 := by rw [← eS_1]; exact (pI_sI_nf (by decide)).trans ci_1228
  have hc_2 : pI S_1 1200 mo = 0 := by rw [← eS_1]; exact pI_sI_same
  refine lv_iload_n X.1 X.2.1 dX12_end_5 rfl (lv_at hl 1 rfl) ?_
  refine lv_iconst (v := 0) X.1 X.2.1 dX12_end_6 (by decide) ?_
  refine lv_aload_n X.1 X.2.1 dX12_end_7 rfl (lv_at hl 0 rfl) ?_
  refine r_get (v := .int 0) X hw hat_mo 28 (by decide) rfl inn_X12_end_12 (by decide) (X.2.2.2.1 (.fieldLink RX12 211 "SilkMillModel" "taped" "I") (by decide +kernel)) rfl ((gv_1228 _ _).trans (congrArg (fun z => some (Value.int z)) ci_1228)) dX12_end_8 ?_
  refine k_i (rm := { frames := 1, cells := 0, slots := 0, locals := 40 }) (av := [.int (a1), .int 0, .int 0]) X hw (va_runS (As := [.int (a1), .int 0, .int 0]) (rest := []) (cfix X) (c_X12_within l G cy S_1 _ (a1) (0) (0)) (cwS 3 X.2.2.2.1 gX12_end_X12_within rfl rfl rfl (by decide +kernel) ⟨Nat.le_of_ble_eq_true rfl, Nat.le_of_ble_eq_true rfl⟩) (pre_S X hw _) rfl rfl hl.1 rfl (lv_room (Nat.le_of_ble_eq_true rfl)) dX12_end_11 ⟨Nat.le_of_ble_eq_true rfl, Nat.le_of_ble_eq_true rfl⟩) 0 0 (Nat.le_of_ble_eq_true rfl) (Nat.le_of_ble_eq_true rfl) (fun rr_11 S2 H locs hp hw hfr hnw => ?_)
  obtain ⟨e2_11, hp⟩ := hp
  subst e2_11
  rcases hp with ⟨b_11, er_11⟩ | ⟨b_11, er_11⟩ <;> subst er_11
  · have z_11 := trivial
    refine lv_if_ne (tgt := 19) X.1 X.2.1 dX12_end_14 (by decide) (fun c_14 => ?_) (fun c_14 => absurd c_14 (by decide))
    refine lv_aload_n X.1 X.2.1 dX12_end_19 rfl (lv_at hl 0 rfl) ?_
    refine lv_iload_n X.1 X.2.1 dX12_end_20 rfl (lv_at hl 1 rfl) ?_
    refine r_putI (v := a1) X hw hat_mo 28 1228 tyX12 (by decide) rfl inn_X12_end_12 tyX12_ok nmX12 (by decide) (X.2.2.2.1 (.fieldLink RX12 211 "SilkMillModel" "taped" "I") (by decide +kernel)) rfl (Or.inl rfl) rfl rfl (Nat.le_of_ble_eq_true rfl) (st_1228 _ _) dX12_end_21 (fun H locs hw => ?_)
    generalize eS_3 : sI S_1 1228 mo a1 = S_3 at hw
    have hat_mo : At S_3 mo 12 := by rw [← eS_3]; exact At_sI hat_mo
    have hc_2 : pI S_3 1200 mo = 0 := by rw [← eS_3]; exact (pI_sI_nf (by decide)).trans hc_2
    have hc_4 : pI S_3 1228 mo = a1 := by rw [← eS_3]; exact pI_sI_same
    refine lv_iload_n X.1 X.2.1 dX12_end_24 rfl (lv_at hl 1 rfl) ?_
    exact ret_i X hw hr hlocks (Nat.le_of_ble_eq_true rfl) (Nat.le_of_ble_eq_true rfl) (if_pos b_11).symm dX12_end_25
  · have z_11 := trivial
    refine lv_if_ne (tgt := 19) X.1 X.2.1 dX12_end_14 (by decide) (fun c_14 => absurd c_14 (by decide)) (fun c_14 => ?_)
    refine lv_iconst (v := (-1)) X.1 X.2.1 dX12_end_17 (by decide) ?_
    exact ret_i X hw hr hlocks (Nat.le_of_ble_eq_true rfl) (Nat.le_of_ble_eq_true rfl) (if_neg (fun h => b_11 h)).symm dX12_end_18
set_option maxHeartbeats 4000000 in
set_option maxRecDepth 100000 in
theorem c_X12_price (l : Launch) (G : va_G) (cy : Nat → ClassId) (S : PS) (sz : Nat) (mo : Nat) (a1 : Int32) (a2 : Int32) (hF : FM S mo) : Ci l yX12_price wsX12_price ({ frames := 5, cells := 0, slots := 0, locals := 200 }) G cy S sz [.ref mo, .int (a1), .int (a2)] (fun (r : Int32) (S9 : PS) => r = priV a1 a2) := by
  refine ent_m (cc := cX12_price) (maxL := 3) (ret := (some .boolean)) (by decide) rfl (Nat.le_of_ble_eq_true rfl) ?_
  intro p e s m below meth c ls X hr hlocks hin hw hl hsz
  subst hsz
  have X : Cx p c cX12_price 3 s [.ref mo, .int (a1), .int (a2)].toArray wsX12_price RX12 m G cy (AS S s.heap.size) := X
  have hl : lv_has ls 3 [(0, .ref mo), (1, .int (a1)), (2, .int (a2))] := hl
  obtain ⟨hat_mo, hci, ci_1229, hars, hz53, hz39⟩ := hF
  obtain ⟨q1248, rf_q1248, hat_q1248, ln_q1248⟩ := hars (1248, 14, 4) (by decide +kernel)
  have rf_q1248 : pR S 1248 mo = some q1248 := rf_q1248
  have hat_q1248 : At S q1248 14 := hat_q1248
  have ln_q1248 : pN S q1248 = 4 := ln_q1248
  refine lv_aload_n X.1 X.2.1 dX12_price_0 rfl (lv_at hl 0 rfl) ?_
  refine lv_iconst (v := 0) X.1 X.2.1 dX12_price_1 (by decide) ?_
  refine r_putI (v := 0) X hw hat_mo 0 1200 tyX12 (by decide) rfl inn_X12_price_12 tyX12_ok nmX12 (by decide) (X.2.2.2.1 (.fieldLink RX12 161 "SilkMillModel" "thrown" "I") (by decide +kernel)) rfl (Or.inl rfl) rfl rfl (Nat.le_of_ble_eq_true rfl) (st_1200 _ _) dX12_price_2 (fun H locs hw => ?_)
  generalize eS_1 : sI S 1200 mo 0 = S_1 at hw
  have hat_mo : At S_1 mo 12 := by rw [← eS_1]; exact At_sI hat_mo
  have hat_q1248 : At S_1 q1248 14 := by rw [← eS_1]; exact At_sI hat_q1248
  have rf_q1248 : pR S_1 1248 mo = some q1248 := by rw [← eS_1, pR_sI]; exact rf_q1248
  have ln_q1248 : pN S_1 q1248 = 4 := by rw [← eS_1, pN_sI]; exact ln_q1248
  have hc_2 : pI S_1 1200 mo = 0 := by rw [← eS_1]; exact pI_sI_same
  refine lv_iload_n X.1 X.2.1 dX12_price_5 rfl (lv_at hl 1 rfl) ?_
  refine lv_iconst (v := 0) X.1 X.2.1 dX12_price_6 (by decide) ?_
  refine lv_iconst (v := 3) X.1 X.2.1 dX12_price_7 (by decide) ?_
  refine k_i (rm := { frames := 1, cells := 0, slots := 0, locals := 40 }) (av := [.int (a1), .int 0, .int 3]) X hw (va_runS (As := [.int (a1), .int 0, .int 3]) (rest := []) (cfix X) (c_X12_within l G cy S_1 _ (a1) (0) (3)) (cwS 3 X.2.2.2.1 gX12_price_X12_within rfl rfl rfl (by decide +kernel) ⟨Nat.le_of_ble_eq_true rfl, Nat.le_of_ble_eq_true rfl⟩) (pre_S X hw _) rfl rfl hl.1 rfl (lv_room (Nat.le_of_ble_eq_true rfl)) dX12_price_8 ⟨Nat.le_of_ble_eq_true rfl, Nat.le_of_ble_eq_true rfl⟩) 0 0 (Nat.le_of_ble_eq_true rfl) (Nat.le_of_ble_eq_true rfl) (fun rr_8 S2 H locs hp hw hfr hnw => ?_)
  obtain ⟨e2_8, hp⟩ := hp
  subst e2_8
  rcases hp with ⟨b_8, er_8⟩ | ⟨b_8, er_8⟩ <;> subst er_8
  · have z_8 := trivial
    refine lv_if_eq (tgt := 25) X.1 X.2.1 dX12_price_11 (by decide) (fun c_11 => absurd c_11 (by decide)) (fun c_11 => ?_)
    refine lv_iload_n X.1 X.2.1 dX12_price_14 rfl (lv_at hl 2 rfl) ?_
    refine lv_iconst (v := 0) X.1 X.2.1 dX12_price_15 (by decide) ?_
    refine lv_sipush (v := 1000) X.1 X.2.1 dX12_price_16 (by decide) ?_
    refine k_i (rm := { frames := 1, cells := 0, slots := 0, locals := 40 }) (av := [.int (a2), .int 0, .int 1000]) X hw (va_runS (As := [.int (a2), .int 0, .int 1000]) (rest := []) (cfix X) (c_X12_within l G cy S_1 _ (a2) (0) (1000)) (cwS 3 X.2.2.2.1 gX12_price_X12_within rfl rfl rfl (by decide +kernel) ⟨Nat.le_of_ble_eq_true rfl, Nat.le_of_ble_eq_true rfl⟩) (pre_S X hw _) rfl rfl hl.1 rfl (lv_room (Nat.le_of_ble_eq_true rfl)) dX12_price_19 ⟨Nat.le_of_ble_eq_true rfl, Nat.le_of_ble_eq_true rfl⟩) 0 0 (Nat.le_of_ble_eq_true rfl) (Nat.le_of_ble_eq_true rfl) (fun rr_19 S2 H locs hp hw hfr hnw => ?_)
    obtain ⟨e2_19, hp⟩ := hp
    subst e2_19
    rcases hp with ⟨b_19, er_19⟩ | ⟨b_19, er_19⟩ <;> subst er_19
    · have z_19 := trivial
      refine lv_if_ne (tgt := 27) X.1 X.2.1 dX12_price_22 (by decide) (fun c_22 => ?_) (fun c_22 => absurd c_22 (by decide))
      refine lv_aload_n X.1 X.2.1 dX12_price_27 rfl (lv_at hl 0 rfl) ?_
      refine r_getR (g := 1248) X hw hat_mo 48 rf_q1248 (by decide) rfl inn_X12_price_12 (by decide) (X.2.2.2.1 (.fieldLink RX12 119 "SilkMillModel" "price" "[I") (by decide +kernel)) rfl (gv_1248 _ _) dX12_price_28 ?_
      refine lv_iload_n X.1 X.2.1 dX12_price_31 rfl (lv_at hl 1 rfl) ?_
      refine lv_iload_n X.1 X.2.1 dX12_price_32 rfl (lv_at hl 2 rfl) ?_
      refine r_iast X hw hat_q1248 (by rw [ln_q1248]; exact wi_vp b_8 (by decide)) dX12_price_33 (fun H locs hw => ?_)
      generalize eS_3 : sA S_1 q1248 (upd (pA S_1 q1248) (Int32.toNatClampNeg (a1)) a2) = S_3 at hw
      have hat_mo : At S_3 mo 12 := by rw [← eS_3]; exact At_sA hat_mo
      have hat_q1248 : At S_3 q1248 14 := by rw [← eS_3]; exact At_sA hat_q1248
      have rf_q1248 : pR S_3 1248 mo = some q1248 := by rw [← eS_3, pR_sA]; exact rf_q1248
      have hc_2 : pI S_3 1200 mo = 0 := by rw [← eS_3, pI_sA]; exact hc_2
      have ln_q1248 : pN S_3 q1248 = 4 := by rw [← eS_3, pN_sA]; exact ln_q1248
      refine lv_iconst (v := 1) X.1 X.2.1 dX12_price_34 (by decide) ?_
      exact ret_z X hw hr hlocks (Nat.le_of_ble_eq_true rfl) (Nat.le_of_ble_eq_true rfl) (by decide) (if_pos ⟨b_8, b_19⟩).symm dX12_price_35
    · have z_19 := trivial
      refine lv_if_ne (tgt := 27) X.1 X.2.1 dX12_price_22 (by decide) (fun c_22 => absurd c_22 (by decide)) (fun c_22 => ?_)
      refine lv_iconst (v := 0) X.1 X.2.1 dX12_price_25 (by decide) ?_
      exact ret_z X hw hr hlocks (Nat.le_of_ble_eq_true rfl) (Nat.le_of_ble_eq_true rfl) (by decide) (if_neg (fun h => b_19 h.2)).symm dX12_price_26
  · have z_8 := trivial
    refine lv_if_eq (tgt := 25) X.1 X.2.1 dX12_price_11 (by decide) (fun c_11 => ?_) (fun c_11 => absurd c_11 (by decide))
    refine lv_iconst (v := 0) X.1 X.2.1 dX12_price_25 (by decide) ?_
    exact ret_z X hw hr hlocks (Nat.le_of_ble_eq_true rfl) (Nat.le_of_ble_eq_true rfl) (by decide) (if_neg (fun h => b_8 h.1)).symm dX12_price_26
end
section
set_option maxRecDepth 20000 in
theorem ggX12_pot_X12_within : GoodIn wsX12_pot wsX12_within := goodIn_r _ [8] (by decide +kernel) (by decide +kernel)
set_option maxRecDepth 20000 in
theorem gX12_pot_X12_within : GoodIn wsX12_pot (va_wsS RX12 168 yX12_within wsX12_within) := goodIn_app (goodIn_of _ (by decide +kernel)) ggX12_pot_X12_within
theorem dX12_pot_0 : decode cX12_pot 0 = .ok (.aload_n 0, 1) := by decide +kernel
theorem dX12_pot_1 : decode cX12_pot 1 = .ok (.iconst 0, 1) := by decide +kernel
theorem dX12_pot_2 : decode cX12_pot 2 = .ok (.putfield 161, 3) := by decide +kernel
theorem dX12_pot_5 : decode cX12_pot 5 = .ok (.aload_n 0, 1) := by decide +kernel
theorem dX12_pot_6 : decode cX12_pot 6 = .ok (.getfield 197, 3) := by decide +kernel
theorem dX12_pot_9 : decode cX12_pot 9 = .ok (.iconst 4, 1) := by decide +kernel
theorem dX12_pot_10 : decode cX12_pot 10 = .ok (.if_icmp .eq 25, 3) := by decide +kernel
theorem dX12_pot_13 : decode cX12_pot 13 = .ok (.iload_n 1, 1) := by decide +kernel
theorem dX12_pot_14 : decode cX12_pot 14 = .ok (.bipush 10, 2) := by decide +kernel
theorem dX12_pot_16 : decode cX12_pot 16 = .ok (.sipush 2000, 3) := by decide +kernel
theorem dX12_pot_19 : decode cX12_pot 19 = .ok (.invokestatic 168, 3) := by decide +kernel
theorem dX12_pot_22 : decode cX12_pot 22 = .ok (.ifCond .eq 13, 3) := by decide +kernel
theorem dX12_pot_25 : decode cX12_pot 25 = .ok (.iload_n 2, 1) := by decide +kernel
theorem dX12_pot_26 : decode cX12_pot 26 = .ok (.iconst 1, 1) := by decide +kernel
theorem dX12_pot_27 : decode cX12_pot 27 = .ok (.bipush 50, 2) := by decide +kernel
theorem dX12_pot_29 : decode cX12_pot 29 = .ok (.invokestatic 168, 3) := by decide +kernel
theorem dX12_pot_32 : decode cX12_pot 32 = .ok (.ifCond .ne 5, 3) := by decide +kernel
theorem dX12_pot_35 : decode cX12_pot 35 = .ok (.iconst (-1), 1) := by decide +kernel
theorem dX12_pot_36 : decode cX12_pot 36 = .ok (.ireturn, 1) := by decide +kernel
theorem dX12_pot_37 : decode cX12_pot 37 = .ok (.aload_n 0, 1) := by decide +kernel
theorem dX12_pot_38 : decode cX12_pot 38 = .ok (.getfield 37, 3) := by decide +kernel
theorem dX12_pot_41 : decode cX12_pot 41 = .ok (.aload_n 0, 1) := by decide +kernel
theorem dX12_pot_42 : decode cX12_pot 42 = .ok (.getfield 197, 3) := by decide +kernel
theorem dX12_pot_45 : decode cX12_pot 45 = .ok (.iload_n 1, 1) := by decide +kernel
theorem dX12_pot_46 : decode cX12_pot 46 = .ok (.iastore, 1) := by decide +kernel
theorem dX12_pot_47 : decode cX12_pot 47 = .ok (.aload_n 0, 1) := by decide +kernel
theorem dX12_pot_48 : decode cX12_pot 48 = .ok (.getfield 40, 3) := by decide +kernel
theorem dX12_pot_51 : decode cX12_pot 51 = .ok (.aload_n 0, 1) := by decide +kernel
theorem dX12_pot_52 : decode cX12_pot 52 = .ok (.getfield 197, 3) := by decide +kernel
theorem dX12_pot_55 : decode cX12_pot 55 = .ok (.iload_n 2, 1) := by decide +kernel
theorem dX12_pot_56 : decode cX12_pot 56 = .ok (.iastore, 1) := by decide +kernel
theorem dX12_pot_57 : decode cX12_pot 57 = .ok (.aload_n 0, 1) := by decide +kernel
theorem dX12_pot_58 : decode cX12_pot 58 = .ok (.dup, 1) := by decide +kernel
theorem dX12_pot_59 : decode cX12_pot 59 = .ok (.getfield 197, 3) := by decide +kernel
theorem dX12_pot_62 : decode cX12_pot 62 = .ok (.iconst 1, 1) := by decide +kernel
theorem dX12_pot_63 : decode cX12_pot 63 = .ok (.iadd, 1) := by decide +kernel
theorem dX12_pot_64 : decode cX12_pot 64 = .ok (.putfield 197, 3) := by decide +kernel
theorem dX12_pot_67 : decode cX12_pot 67 = .ok (.aload_n 0, 1) := by decide +kernel
theorem dX12_pot_68 : decode cX12_pot 68 = .ok (.getfield 197, 3) := by decide +kernel
theorem dX12_pot_71 : decode cX12_pot 71 = .ok (.iconst 1, 1) := by decide +kernel
theorem dX12_pot_72 : decode cX12_pot 72 = .ok (.isub, 1) := by decide +kernel
theorem dX12_pot_73 : decode cX12_pot 73 = .ok (.ireturn, 1) := by decide +kernel
theorem inn_X12_pot_12 : ∀ w ∈ u_ws RX12 TX12 66, w ∈ wsX12_pot := fun w h => List.mem_cons_of_mem _ (List.mem_append_right _ h)
end
section
set_option maxHeartbeats 4000000 in
set_option maxRecDepth 100000 in
theorem c_X12_pot (l : Launch) (G : va_G) (cy : Nat → ClassId) (S : PS) (sz : Nat) (mo : Nat) (a1 : Int32) (a2 : Int32) (hF : FM S mo) : Ci l yX12_pot wsX12_pot ({ frames := 5, cells := 0, slots := 0, locals := 200 }) G cy S sz [.ref mo, .int (a1), .int (a2)] (fun (r : Int32) (S9 : PS) => r = potV a1 a2) := by
  refine ent_m (cc := cX12_pot) (maxL := 3) (ret := (some .int)) (by decide) rfl (Nat.le_of_ble_eq_true rfl) ?_
  intro p e s m below meth c ls X hr hlocks hin hw hl hsz
  subst hsz
  have X : Cx p c cX12_pot 3 s [.ref mo, .int (a1), .int (a2)].toArray wsX12_pot RX12 m G cy (AS S s.heap.size) := X
  have hl : lv_has ls 3 [(0, .ref mo), (1, .int (a1)), (2, .int (a2))] := hl
  obtain ⟨hat_mo, hci, ci_1229, hars, hz53, hz39⟩ := hF
  have ci_1211 := hci 1211 (by decide)
  obtain ⟨q1212, rf_q1212, hat_q1212, ln_q1212⟩ := hars (1212, 14, 4) (by decide +kernel)
  have rf_q1212 : pR S 1212 mo = some q1212 := rf_q1212
  have hat_q1212 : At S q1212 14 := hat_q1212
  have ln_q1212 : pN S q1212 = 4 := ln_q1212
  obtain ⟨q1213, rf_q1213, hat_q1213, ln_q1213⟩ := hars (1213, 14, 4) (by decide +kernel)
  have rf_q1213 : pR S 1213 mo = some q1213 := rf_q1213
  have hat_q1213 : At S q1213 14 := hat_q1213
  have ln_q1213 : pN S q1213 = 4 := ln_q1213
  refine lv_aload_n X.1 X.2.1 dX12_pot_0 rfl (lv_at hl 0 rfl) ?_
  refine lv_iconst (v := 0) X.1 X.2.1 dX12_pot_1 (by decide) ?_
  refine r_putI (v := 0) X hw hat_mo 0 1200 tyX12 (by decide) rfl inn_X12_pot_12 tyX12_ok nmX12 (by decide) (X.2.2.2.1 (.fieldLink RX12 161 "SilkMillModel" "thrown" "I") (by decide +kernel)) rfl (Or.inl rfl) rfl rfl (Nat.le_of_ble_eq_true rfl) (st_1200 _ _) dX12_pot_2 (fun H locs hw => ?_)
  generalize eS_1 : sI S 1200 mo 0 = S_1 at hw
  have hat_mo : At S_1 mo 12 := by rw [← eS_1]; exact At_sI hat_mo
  have hat_q1212 : At S_1 q1212 14 := by rw [← eS_1]; exact At_sI hat_q1212
  have hat_q1213 : At S_1 q1213 14 := by rw [← eS_1]; exact At_sI hat_q1213
  have rf_q1212 : pR S_1 1212 mo = some q1212 := by rw [← eS_1, pR_sI]; exact rf_q1212
  have rf_q1213 : pR S_1 1213 mo = some q1213 := by rw [← eS_1, pR_sI]; exact rf_q1213
  have ci_1211 : pI S_1 1211 mo = 0 := by rw [← eS_1]; exact (pI_sI_nf (by decide)).trans ci_1211
  have ln_q1212 : pN S_1 q1212 = 4 := by rw [← eS_1, pN_sI]; exact ln_q1212
  have ln_q1213 : pN S_1 q1213 = 4 := by rw [← eS_1, pN_sI]; exact ln_q1213
  have hc_2 : pI S_1 1200 mo = 0 := by rw [← eS_1]; exact pI_sI_same
  refine lv_aload_n X.1 X.2.1 dX12_pot_5 rfl (lv_at hl 0 rfl) ?_
  refine r_get (v := .int 0) X hw hat_mo 11 (by decide) rfl inn_X12_pot_12 (by decide) (X.2.2.2.1 (.fieldLink RX12 197 "SilkMillModel" "pots" "I") (by decide +kernel)) rfl ((gv_1211 _ _).trans (congrArg (fun z => some (Value.int z)) ci_1211)) dX12_pot_6 ?_
  refine lv_iconst (v := 4) X.1 X.2.1 dX12_pot_9 (by decide) ?_
  refine lv_icmp_eq (tgt := 35) X.1 X.2.1 dX12_pot_10 (by decide) (fun c_10 => absurd c_10 (by decide)) (fun c_10 => ?_)
  refine lv_iload_n X.1 X.2.1 dX12_pot_13 rfl (lv_at hl 1 rfl) ?_
  refine lv_bipush (v := 10) X.1 X.2.1 dX12_pot_14 (by decide) ?_
  refine lv_sipush (v := 2000) X.1 X.2.1 dX12_pot_16 (by decide) ?_
  refine k_i (rm := { frames := 1, cells := 0, slots := 0, locals := 40 }) (av := [.int (a1), .int 10, .int 2000]) X hw (va_runS (As := [.int (a1), .int 10, .int 2000]) (rest := []) (cfix X) (c_X12_within l G cy S_1 _ (a1) (10) (2000)) (cwS 3 X.2.2.2.1 gX12_pot_X12_within rfl rfl rfl (by decide +kernel) ⟨Nat.le_of_ble_eq_true rfl, Nat.le_of_ble_eq_true rfl⟩) (pre_S X hw _) rfl rfl hl.1 rfl (lv_room (Nat.le_of_ble_eq_true rfl)) dX12_pot_19 ⟨Nat.le_of_ble_eq_true rfl, Nat.le_of_ble_eq_true rfl⟩) 0 0 (Nat.le_of_ble_eq_true rfl) (Nat.le_of_ble_eq_true rfl) (fun rr_19 S2 H locs hp hw hfr hnw => ?_)
  obtain ⟨e2_19, hp⟩ := hp
  subst e2_19
  rcases hp with ⟨b_19, er_19⟩ | ⟨b_19, er_19⟩ <;> subst er_19
  · have z_19 := trivial
    refine lv_if_eq (tgt := 35) X.1 X.2.1 dX12_pot_22 (by decide) (fun c_22 => absurd c_22 (by decide)) (fun c_22 => ?_)
    refine lv_iload_n X.1 X.2.1 dX12_pot_25 rfl (lv_at hl 2 rfl) ?_
    refine lv_iconst (v := 1) X.1 X.2.1 dX12_pot_26 (by decide) ?_
    refine lv_bipush (v := 50) X.1 X.2.1 dX12_pot_27 (by decide) ?_
    refine k_i (rm := { frames := 1, cells := 0, slots := 0, locals := 40 }) (av := [.int (a2), .int 1, .int 50]) X hw (va_runS (As := [.int (a2), .int 1, .int 50]) (rest := []) (cfix X) (c_X12_within l G cy S_1 _ (a2) (1) (50)) (cwS 3 X.2.2.2.1 gX12_pot_X12_within rfl rfl rfl (by decide +kernel) ⟨Nat.le_of_ble_eq_true rfl, Nat.le_of_ble_eq_true rfl⟩) (pre_S X hw _) rfl rfl hl.1 rfl (lv_room (Nat.le_of_ble_eq_true rfl)) dX12_pot_29 ⟨Nat.le_of_ble_eq_true rfl, Nat.le_of_ble_eq_true rfl⟩) 0 0 (Nat.le_of_ble_eq_true rfl) (Nat.le_of_ble_eq_true rfl) (fun rr_29 S2 H locs hp hw hfr hnw => ?_)
    obtain ⟨e2_29, hp⟩ := hp
    subst e2_29
    rcases hp with ⟨b_29, er_29⟩ | ⟨b_29, er_29⟩ <;> subst er_29
    · have z_29 := trivial
      refine lv_if_ne (tgt := 37) X.1 X.2.1 dX12_pot_32 (by decide) (fun c_32 => ?_) (fun c_32 => absurd c_32 (by decide))
      refine lv_aload_n X.1 X.2.1 dX12_pot_37 rfl (lv_at hl 0 rfl) ?_
      refine r_getR (g := 1212) X hw hat_mo 12 rf_q1212 (by decide) rfl inn_X12_pot_12 (by decide) (X.2.2.2.1 (.fieldLink RX12 37 "SilkMillModel" "aim" "[I") (by decide +kernel)) rfl (gv_1212 _ _) dX12_pot_38 ?_
      refine lv_aload_n X.1 X.2.1 dX12_pot_41 rfl (lv_at hl 0 rfl) ?_
      refine r_get (v := .int 0) X hw hat_mo 11 (by decide) rfl inn_X12_pot_12 (by decide) (X.2.2.2.1 (.fieldLink RX12 197 "SilkMillModel" "pots" "I") (by decide +kernel)) rfl ((gv_1211 _ _).trans (congrArg (fun z => some (Value.int z)) ci_1211)) dX12_pot_42 ?_
      refine lv_iload_n X.1 X.2.1 dX12_pot_45 rfl (lv_at hl 1 rfl) ?_
      refine r_iast X hw hat_q1212 (by rw [ln_q1212]; exact vp_in_iff.mpr (by decide +kernel)) dX12_pot_46 (fun H locs hw => ?_)
      generalize eS_3 : sA S_1 q1212 (upd (pA S_1 q1212) (Int32.toNatClampNeg (0)) a1) = S_3 at hw
      have hat_mo : At S_3 mo 12 := by rw [← eS_3]; exact At_sA hat_mo
      have hat_q1212 : At S_3 q1212 14 := by rw [← eS_3]; exact At_sA hat_q1212
      have hat_q1213 : At S_3 q1213 14 := by rw [← eS_3]; exact At_sA hat_q1213
      have rf_q1212 : pR S_3 1212 mo = some q1212 := by rw [← eS_3, pR_sA]; exact rf_q1212
      have rf_q1213 : pR S_3 1213 mo = some q1213 := by rw [← eS_3, pR_sA]; exact rf_q1213
      have ci_1211 : pI S_3 1211 mo = 0 := by rw [← eS_3, pI_sA]; exact ci_1211
      have hc_2 : pI S_3 1200 mo = 0 := by rw [← eS_3, pI_sA]; exact hc_2
      have ln_q1212 : pN S_3 q1212 = 4 := by rw [← eS_3, pN_sA]; exact ln_q1212
      have ln_q1213 : pN S_3 q1213 = 4 := by rw [← eS_3, pN_sA]; exact ln_q1213
      refine lv_aload_n X.1 X.2.1 dX12_pot_47 rfl (lv_at hl 0 rfl) ?_
      refine r_getR (g := 1213) X hw hat_mo 13 rf_q1213 (by decide) rfl inn_X12_pot_12 (by decide) (X.2.2.2.1 (.fieldLink RX12 40 "SilkMillModel" "find" "[I") (by decide +kernel)) rfl (gv_1213 _ _) dX12_pot_48 ?_
      refine lv_aload_n X.1 X.2.1 dX12_pot_51 rfl (lv_at hl 0 rfl) ?_
      refine r_get (v := .int 0) X hw hat_mo 11 (by decide) rfl inn_X12_pot_12 (by decide) (X.2.2.2.1 (.fieldLink RX12 197 "SilkMillModel" "pots" "I") (by decide +kernel)) rfl ((gv_1211 _ _).trans (congrArg (fun z => some (Value.int z)) ci_1211)) dX12_pot_52 ?_
      refine lv_iload_n X.1 X.2.1 dX12_pot_55 rfl (lv_at hl 2 rfl) ?_
      refine r_iast X hw hat_q1213 (by rw [ln_q1213]; exact vp_in_iff.mpr (by decide +kernel)) dX12_pot_56 (fun H locs hw => ?_)
      generalize eS_4 : sA S_3 q1213 (upd (pA S_3 q1213) (Int32.toNatClampNeg (0)) a2) = S_4 at hw
      have hat_mo : At S_4 mo 12 := by rw [← eS_4]; exact At_sA hat_mo
      have hat_q1212 : At S_4 q1212 14 := by rw [← eS_4]; exact At_sA hat_q1212
      have hat_q1213 : At S_4 q1213 14 := by rw [← eS_4]; exact At_sA hat_q1213
      have rf_q1212 : pR S_4 1212 mo = some q1212 := by rw [← eS_4, pR_sA]; exact rf_q1212
      have rf_q1213 : pR S_4 1213 mo = some q1213 := by rw [← eS_4, pR_sA]; exact rf_q1213
      have ci_1211 : pI S_4 1211 mo = 0 := by rw [← eS_4, pI_sA]; exact ci_1211
      have hc_2 : pI S_4 1200 mo = 0 := by rw [← eS_4, pI_sA]; exact hc_2
      have ln_q1212 : pN S_4 q1212 = 4 := by rw [← eS_4, pN_sA]; exact ln_q1212
      have ln_q1213 : pN S_4 q1213 = 4 := by rw [← eS_4, pN_sA]; exact ln_q1213
      refine lv_aload_n X.1 X.2.1 dX12_pot_57 rfl (lv_at hl 0 rfl) ?_
      refine lv_dup X.1 X.2.1 dX12_pot_58 rfl ?_
      refine r_get (v := .int 0) X hw hat_mo 11 (by decide) rfl inn_X12_pot_12 (by decide) (X.2.2.2.1 (.fieldLink RX12 197 "SilkMillModel" "pots" "I") (by decide +kernel)) rfl ((gv_1211 _ _).trans (congrArg (fun z => some (Value.int z)) ci_1211)) dX12_pot_59 ?_
      refine lv_iconst (v := 1) X.1 X.2.1 dX12_pot_62 (by decide) ?_
      refine lv_iadd X.1 X.2.1 dX12_pot_63 ?_
      refine lv_topi (fun v_5 ev_5 => ?_)
      obtain rfl : v_5 = 1 := ev_5.trans (by decide +kernel)
      refine r_putI (v := 1) X hw hat_mo 11 1211 tyX12 (by decide) rfl inn_X12_pot_12 tyX12_ok nmX12 (by decide) (X.2.2.2.1 (.fieldLink RX12 197 "SilkMillModel" "pots" "I") (by decide +kernel)) rfl (Or.inl rfl) rfl rfl (Nat.le_of_ble_eq_true rfl) (st_1211 _ _) dX12_pot_64 (fun H locs hw => ?_)
      generalize eS_6 : sI S_4 1211 mo 1 = S_6 at hw
      have hat_mo : At S_6 mo 12 := by rw [← eS_6]; exact At_sI hat_mo
      have hat_q1212 : At S_6 q1212 14 := by rw [← eS_6]; exact At_sI hat_q1212
      have hat_q1213 : At S_6 q1213 14 := by rw [← eS_6]; exact At_sI hat_q1213
      have rf_q1212 : pR S_6 1212 mo = some q1212 := by rw [← eS_6, pR_sI]; exact rf_q1212
      have rf_q1213 : pR S_6 1213 mo = some q1213 := by rw [← eS_6, pR_sI]; exact rf_q1213
      have hc_2 : pI S_6 1200 mo = 0 := by rw [← eS_6]; exact (pI_sI_nf (by decide)).trans hc_2
      have ln_q1212 : pN S_6 q1212 = 4 := by rw [← eS_6, pN_sI]; exact ln_q1212
      have ln_q1213 : pN S_6 q1213 = 4 := by rw [← eS_6, pN_sI]; exact ln_q1213
      have hc_7 : pI S_6 1211 mo = 1 := by rw [← eS_6]; exact pI_sI_same
      refine lv_aload_n X.1 X.2.1 dX12_pot_67 rfl (lv_at hl 0 rfl) ?_
      refine r_get (v := .int 1) X hw hat_mo 11 (by decide) rfl inn_X12_pot_12 (by decide) (X.2.2.2.1 (.fieldLink RX12 197 "SilkMillModel" "pots" "I") (by decide +kernel)) rfl ((gv_1211 _ _).trans (congrArg (fun z => some (Value.int z)) hc_7)) dX12_pot_68 ?_
      refine lv_iconst (v := 1) X.1 X.2.1 dX12_pot_71 (by decide) ?_
      refine lv_isub X.1 X.2.1 dX12_pot_72 ?_
      refine lv_topi (fun v_8 ev_8 => ?_)
      obtain rfl : v_8 = 0 := ev_8.trans (by decide +kernel)
      exact ret_i X hw hr hlocks (Nat.le_of_ble_eq_true rfl) (Nat.le_of_ble_eq_true rfl) (if_pos ⟨b_19, b_29⟩).symm dX12_pot_73
    · have z_29 := trivial
      refine lv_if_ne (tgt := 37) X.1 X.2.1 dX12_pot_32 (by decide) (fun c_32 => absurd c_32 (by decide)) (fun c_32 => ?_)
      refine lv_iconst (v := (-1)) X.1 X.2.1 dX12_pot_35 (by decide) ?_
      exact ret_i X hw hr hlocks (Nat.le_of_ble_eq_true rfl) (Nat.le_of_ble_eq_true rfl) (if_neg (fun h => b_29 h.2)).symm dX12_pot_36
  · have z_19 := trivial
    refine lv_if_eq (tgt := 35) X.1 X.2.1 dX12_pot_22 (by decide) (fun c_22 => ?_) (fun c_22 => absurd c_22 (by decide))
    refine lv_iconst (v := (-1)) X.1 X.2.1 dX12_pot_35 (by decide) ?_
    exact ret_i X hw hr hlocks (Nat.le_of_ble_eq_true rfl) (Nat.le_of_ble_eq_true rfl) (if_neg (fun h => b_19 h.1)).symm dX12_pot_36
end
section
set_option maxRecDepth 20000 in
theorem ggX12_lot_X12_within : GoodIn wsX12_lot wsX12_within := goodIn_r _ [11] (by decide +kernel) (by decide +kernel)
set_option maxRecDepth 20000 in
theorem gX12_lot_X12_within : GoodIn wsX12_lot (va_wsS RX12 168 yX12_within wsX12_within) := goodIn_app (goodIn_of _ (by decide +kernel)) ggX12_lot_X12_within
theorem dX12_lot_0 : decode cX12_lot 0 = .ok (.aload_n 0, 1) := by decide +kernel
theorem dX12_lot_1 : decode cX12_lot 1 = .ok (.iconst 0, 1) := by decide +kernel
theorem dX12_lot_2 : decode cX12_lot 2 = .ok (.putfield 161, 3) := by decide +kernel
theorem dX12_lot_5 : decode cX12_lot 5 = .ok (.aload_n 0, 1) := by decide +kernel
theorem dX12_lot_6 : decode cX12_lot 6 = .ok (.getfield 165, 3) := by decide +kernel
theorem dX12_lot_9 : decode cX12_lot 9 = .ok (.bipush 10, 2) := by decide +kernel
theorem dX12_lot_11 : decode cX12_lot 11 = .ok (.if_icmp .eq 49, 3) := by decide +kernel
theorem dX12_lot_14 : decode cX12_lot 14 = .ok (.iload_n 1, 1) := by decide +kernel
theorem dX12_lot_15 : decode cX12_lot 15 = .ok (.iconst 1, 1) := by decide +kernel
theorem dX12_lot_16 : decode cX12_lot 16 = .ok (.bipush 60, 2) := by decide +kernel
theorem dX12_lot_18 : decode cX12_lot 18 = .ok (.invokestatic 168, 3) := by decide +kernel
theorem dX12_lot_21 : decode cX12_lot 21 = .ok (.ifCond .eq 39, 3) := by decide +kernel
theorem dX12_lot_24 : decode cX12_lot 24 = .ok (.iload_n 3, 1) := by decide +kernel
theorem dX12_lot_25 : decode cX12_lot 25 = .ok (.bipush 20, 2) := by decide +kernel
theorem dX12_lot_27 : decode cX12_lot 27 = .ok (.bipush 60, 2) := by decide +kernel
theorem dX12_lot_29 : decode cX12_lot 29 = .ok (.invokestatic 168, 3) := by decide +kernel
theorem dX12_lot_32 : decode cX12_lot 32 = .ok (.ifCond .eq 28, 3) := by decide +kernel
theorem dX12_lot_35 : decode cX12_lot 35 = .ok (.iload 4, 2) := by decide +kernel
theorem dX12_lot_37 : decode cX12_lot 37 = .ok (.bipush 40, 2) := by decide +kernel
theorem dX12_lot_39 : decode cX12_lot 39 = .ok (.sipush 200, 3) := by decide +kernel
theorem dX12_lot_42 : decode cX12_lot 42 = .ok (.invokestatic 168, 3) := by decide +kernel
theorem dX12_lot_45 : decode cX12_lot 45 = .ok (.ifCond .eq 15, 3) := by decide +kernel
theorem dX12_lot_48 : decode cX12_lot 48 = .ok (.iload 5, 2) := by decide +kernel
theorem dX12_lot_50 : decode cX12_lot 50 = .ok (.iconst 0, 1) := by decide +kernel
theorem dX12_lot_51 : decode cX12_lot 51 = .ok (.sipush 200, 3) := by decide +kernel
theorem dX12_lot_54 : decode cX12_lot 54 = .ok (.invokestatic 168, 3) := by decide +kernel
theorem dX12_lot_57 : decode cX12_lot 57 = .ok (.ifCond .ne 5, 3) := by decide +kernel
theorem dX12_lot_60 : decode cX12_lot 60 = .ok (.iconst (-1), 1) := by decide +kernel
theorem dX12_lot_61 : decode cX12_lot 61 = .ok (.ireturn, 1) := by decide +kernel
theorem dX12_lot_62 : decode cX12_lot 62 = .ok (.aload_n 0, 1) := by decide +kernel
theorem dX12_lot_63 : decode cX12_lot 63 = .ok (.getfield 7, 3) := by decide +kernel
theorem dX12_lot_66 : decode cX12_lot 66 = .ok (.aload_n 0, 1) := by decide +kernel
theorem dX12_lot_67 : decode cX12_lot 67 = .ok (.getfield 165, 3) := by decide +kernel
theorem dX12_lot_70 : decode cX12_lot 70 = .ok (.iload_n 1, 1) := by decide +kernel
theorem dX12_lot_71 : decode cX12_lot 71 = .ok (.iastore, 1) := by decide +kernel
theorem dX12_lot_72 : decode cX12_lot 72 = .ok (.aload_n 0, 1) := by decide +kernel
theorem dX12_lot_73 : decode cX12_lot 73 = .ok (.getfield 13, 3) := by decide +kernel
theorem dX12_lot_76 : decode cX12_lot 76 = .ok (.aload_n 0, 1) := by decide +kernel
theorem dX12_lot_77 : decode cX12_lot 77 = .ok (.getfield 165, 3) := by decide +kernel
theorem dX12_lot_80 : decode cX12_lot 80 = .ok (.iload_n 2, 1) := by decide +kernel
theorem dX12_lot_81 : decode cX12_lot 81 = .ok (.iastore, 1) := by decide +kernel
theorem dX12_lot_82 : decode cX12_lot 82 = .ok (.aload_n 0, 1) := by decide +kernel
theorem dX12_lot_83 : decode cX12_lot 83 = .ok (.getfield 16, 3) := by decide +kernel
theorem dX12_lot_86 : decode cX12_lot 86 = .ok (.aload_n 0, 1) := by decide +kernel
theorem dX12_lot_87 : decode cX12_lot 87 = .ok (.getfield 165, 3) := by decide +kernel
theorem dX12_lot_90 : decode cX12_lot 90 = .ok (.iload_n 3, 1) := by decide +kernel
theorem dX12_lot_91 : decode cX12_lot 91 = .ok (.iastore, 1) := by decide +kernel
theorem dX12_lot_92 : decode cX12_lot 92 = .ok (.aload_n 0, 1) := by decide +kernel
theorem dX12_lot_93 : decode cX12_lot 93 = .ok (.getfield 19, 3) := by decide +kernel
theorem dX12_lot_96 : decode cX12_lot 96 = .ok (.aload_n 0, 1) := by decide +kernel
theorem dX12_lot_97 : decode cX12_lot 97 = .ok (.getfield 165, 3) := by decide +kernel
theorem dX12_lot_100 : decode cX12_lot 100 = .ok (.iload 4, 2) := by decide +kernel
theorem dX12_lot_102 : decode cX12_lot 102 = .ok (.iastore, 1) := by decide +kernel
theorem dX12_lot_103 : decode cX12_lot 103 = .ok (.aload_n 0, 1) := by decide +kernel
theorem dX12_lot_104 : decode cX12_lot 104 = .ok (.getfield 22, 3) := by decide +kernel
theorem dX12_lot_107 : decode cX12_lot 107 = .ok (.aload_n 0, 1) := by decide +kernel
theorem dX12_lot_108 : decode cX12_lot 108 = .ok (.getfield 165, 3) := by decide +kernel
theorem dX12_lot_111 : decode cX12_lot 111 = .ok (.iload 5, 2) := by decide +kernel
theorem dX12_lot_113 : decode cX12_lot 113 = .ok (.iastore, 1) := by decide +kernel
theorem dX12_lot_114 : decode cX12_lot 114 = .ok (.aload_n 0, 1) := by decide +kernel
theorem dX12_lot_115 : decode cX12_lot 115 = .ok (.dup, 1) := by decide +kernel
theorem dX12_lot_116 : decode cX12_lot 116 = .ok (.getfield 165, 3) := by decide +kernel
theorem dX12_lot_119 : decode cX12_lot 119 = .ok (.iconst 1, 1) := by decide +kernel
theorem dX12_lot_120 : decode cX12_lot 120 = .ok (.iadd, 1) := by decide +kernel
theorem dX12_lot_121 : decode cX12_lot 121 = .ok (.putfield 165, 3) := by decide +kernel
theorem dX12_lot_124 : decode cX12_lot 124 = .ok (.aload_n 0, 1) := by decide +kernel
theorem dX12_lot_125 : decode cX12_lot 125 = .ok (.getfield 165, 3) := by decide +kernel
theorem dX12_lot_128 : decode cX12_lot 128 = .ok (.iconst 1, 1) := by decide +kernel
theorem dX12_lot_129 : decode cX12_lot 129 = .ok (.isub, 1) := by decide +kernel
theorem dX12_lot_130 : decode cX12_lot 130 = .ok (.ireturn, 1) := by decide +kernel
theorem inn_X12_lot_12 : ∀ w ∈ u_ws RX12 TX12 66, w ∈ wsX12_lot := fun w h => List.mem_cons_of_mem _ (List.mem_append_right _ h)
end
section
set_option maxHeartbeats 4000000 in
set_option maxRecDepth 100000 in
theorem c_X12_lot (l : Launch) (G : va_G) (cy : Nat → ClassId) (S : PS) (sz : Nat) (mo : Nat) (a1 : Int32) (a2 : Int32) (a3 : Int32) (a4 : Int32) (a5 : Int32) (hF : FM S mo) : Ci l yX12_lot wsX12_lot ({ frames := 5, cells := 0, slots := 0, locals := 200 }) G cy S sz [.ref mo, .int (a1), .int (a2), .int (a3), .int (a4), .int (a5)] (fun (r : Int32) (S9 : PS) => r = lotV a1 a3 a4 a5) := by
  refine ent_m (cc := cX12_lot) (maxL := 6) (ret := (some .int)) (by decide) rfl (Nat.le_of_ble_eq_true rfl) ?_
  intro p e s m below meth c ls X hr hlocks hin hw hl hsz
  subst hsz
  have X : Cx p c cX12_lot 6 s [.ref mo, .int (a1), .int (a2), .int (a3), .int (a4), .int (a5)].toArray wsX12_lot RX12 m G cy (AS S s.heap.size) := X
  have hl : lv_has ls 6 [(0, .ref mo), (1, .int (a1)), (2, .int (a2)), (3, .int (a3)), (4, .int (a4)), (5, .int (a5))] := hl
  obtain ⟨hat_mo, hci, ci_1229, hars, hz53, hz39⟩ := hF
  have ci_1201 := hci 1201 (by decide)
  obtain ⟨q1202, rf_q1202, hat_q1202, ln_q1202⟩ := hars (1202, 14, 10) (by decide +kernel)
  have rf_q1202 : pR S 1202 mo = some q1202 := rf_q1202
  have hat_q1202 : At S q1202 14 := hat_q1202
  have ln_q1202 : pN S q1202 = 10 := ln_q1202
  obtain ⟨q1203, rf_q1203, hat_q1203, ln_q1203⟩ := hars (1203, 14, 10) (by decide +kernel)
  have rf_q1203 : pR S 1203 mo = some q1203 := rf_q1203
  have hat_q1203 : At S q1203 14 := hat_q1203
  have ln_q1203 : pN S q1203 = 10 := ln_q1203
  obtain ⟨q1204, rf_q1204, hat_q1204, ln_q1204⟩ := hars (1204, 14, 10) (by decide +kernel)
  have rf_q1204 : pR S 1204 mo = some q1204 := rf_q1204
  have hat_q1204 : At S q1204 14 := hat_q1204
  have ln_q1204 : pN S q1204 = 10 := ln_q1204
  obtain ⟨q1205, rf_q1205, hat_q1205, ln_q1205⟩ := hars (1205, 14, 10) (by decide +kernel)
  have rf_q1205 : pR S 1205 mo = some q1205 := rf_q1205
  have hat_q1205 : At S q1205 14 := hat_q1205
  have ln_q1205 : pN S q1205 = 10 := ln_q1205
  obtain ⟨q1206, rf_q1206, hat_q1206, ln_q1206⟩ := hars (1206, 14, 10) (by decide +kernel)
  have rf_q1206 : pR S 1206 mo = some q1206 := rf_q1206
  have hat_q1206 : At S q1206 14 := hat_q1206
  have ln_q1206 : pN S q1206 = 10 := ln_q1206
  refine lv_aload_n X.1 X.2.1 dX12_lot_0 rfl (lv_at hl 0 rfl) ?_
  refine lv_iconst (v := 0) X.1 X.2.1 dX12_lot_1 (by decide) ?_
  refine r_putI (v := 0) X hw hat_mo 0 1200 tyX12 (by decide) rfl inn_X12_lot_12 tyX12_ok nmX12 (by decide) (X.2.2.2.1 (.fieldLink RX12 161 "SilkMillModel" "thrown" "I") (by decide +kernel)) rfl (Or.inl rfl) rfl rfl (Nat.le_of_ble_eq_true rfl) (st_1200 _ _) dX12_lot_2 (fun H locs hw => ?_)
  generalize eS_1 : sI S 1200 mo 0 = S_1 at hw
  have hat_mo : At S_1 mo 12 := by rw [← eS_1]; exact At_sI hat_mo
  have hat_q1202 : At S_1 q1202 14 := by rw [← eS_1]; exact At_sI hat_q1202
  have hat_q1203 : At S_1 q1203 14 := by rw [← eS_1]; exact At_sI hat_q1203
  have hat_q1204 : At S_1 q1204 14 := by rw [← eS_1]; exact At_sI hat_q1204
  have hat_q1205 : At S_1 q1205 14 := by rw [← eS_1]; exact At_sI hat_q1205
  have hat_q1206 : At S_1 q1206 14 := by rw [← eS_1]; exact At_sI hat_q1206
  have rf_q1202 : pR S_1 1202 mo = some q1202 := by rw [← eS_1, pR_sI]; exact rf_q1202
  have rf_q1203 : pR S_1 1203 mo = some q1203 := by rw [← eS_1, pR_sI]; exact rf_q1203
  have rf_q1204 : pR S_1 1204 mo = some q1204 := by rw [← eS_1, pR_sI]; exact rf_q1204
  have rf_q1205 : pR S_1 1205 mo = some q1205 := by rw [← eS_1, pR_sI]; exact rf_q1205
  have rf_q1206 : pR S_1 1206 mo = some q1206 := by rw [← eS_1, pR_sI]; exact rf_q1206
  have ci_1201 : pI S_1 1201 mo = 0 := by rw [← eS_1]; exact (pI_sI_nf (by decide)).trans ci_1201
  have ln_q1202 : pN S_1 q1202 = 10 := by rw [← eS_1, pN_sI]; exact ln_q1202
  have ln_q1203 : pN S_1 q1203 = 10 := by rw [← eS_1, pN_sI]; exact ln_q1203
  have ln_q1204 : pN S_1 q1204 = 10 := by rw [← eS_1, pN_sI]; exact ln_q1204
  have ln_q1205 : pN S_1 q1205 = 10 := by rw [← eS_1, pN_sI]; exact ln_q1205
  have ln_q1206 : pN S_1 q1206 = 10 := by rw [← eS_1, pN_sI]; exact ln_q1206
  have hc_2 : pI S_1 1200 mo = 0 := by rw [← eS_1]; exact pI_sI_same
  refine lv_aload_n X.1 X.2.1 dX12_lot_5 rfl (lv_at hl 0 rfl) ?_
  refine r_get (v := .int 0) X hw hat_mo 1 (by decide) rfl inn_X12_lot_12 (by decide) (X.2.2.2.1 (.fieldLink RX12 165 "SilkMillModel" "lots" "I") (by decide +kernel)) rfl ((gv_1201 _ _).trans (congrArg (fun z => some (Value.int z)) ci_1201)) dX12_lot_6 ?_
  refine lv_bipush (v := 10) X.1 X.2.1 dX12_lot_9 (by decide) ?_
  refine lv_icmp_eq (tgt := 60) X.1 X.2.1 dX12_lot_11 (by decide) (fun c_11 => absurd c_11 (by decide)) (fun c_11 => ?_)
  refine lv_iload_n X.1 X.2.1 dX12_lot_14 rfl (lv_at hl 1 rfl) ?_
  refine lv_iconst (v := 1) X.1 X.2.1 dX12_lot_15 (by decide) ?_
  refine lv_bipush (v := 60) X.1 X.2.1 dX12_lot_16 (by decide) ?_
  refine k_i (rm := { frames := 1, cells := 0, slots := 0, locals := 40 }) (av := [.int (a1), .int 1, .int 60]) X hw (va_runS (As := [.int (a1), .int 1, .int 60]) (rest := []) (cfix X) (c_X12_within l G cy S_1 _ (a1) (1) (60)) (cwS 3 X.2.2.2.1 gX12_lot_X12_within rfl rfl rfl (by decide +kernel) ⟨Nat.le_of_ble_eq_true rfl, Nat.le_of_ble_eq_true rfl⟩) (pre_S X hw _) rfl rfl hl.1 rfl (lv_room (Nat.le_of_ble_eq_true rfl)) dX12_lot_18 ⟨Nat.le_of_ble_eq_true rfl, Nat.le_of_ble_eq_true rfl⟩) 0 0 (Nat.le_of_ble_eq_true rfl) (Nat.le_of_ble_eq_true rfl) (fun rr_18 S2 H locs hp hw hfr hnw => ?_)
  obtain ⟨e2_18, hp⟩ := hp
  subst e2_18
  rcases hp with ⟨b_18, er_18⟩ | ⟨b_18, er_18⟩ <;> subst er_18
  · have z_18 := trivial
    refine lv_if_eq (tgt := 60) X.1 X.2.1 dX12_lot_21 (by decide) (fun c_21 => absurd c_21 (by decide)) (fun c_21 => ?_)
    refine lv_iload_n X.1 X.2.1 dX12_lot_24 rfl (lv_at hl 3 rfl) ?_
    refine lv_bipush (v := 20) X.1 X.2.1 dX12_lot_25 (by decide) ?_
    refine lv_bipush (v := 60) X.1 X.2.1 dX12_lot_27 (by decide) ?_
    refine k_i (rm := { frames := 1, cells := 0, slots := 0, locals := 40 }) (av := [.int (a3), .int 20, .int 60]) X hw (va_runS (As := [.int (a3), .int 20, .int 60]) (rest := []) (cfix X) (c_X12_within l G cy S_1 _ (a3) (20) (60)) (cwS 3 X.2.2.2.1 gX12_lot_X12_within rfl rfl rfl (by decide +kernel) ⟨Nat.le_of_ble_eq_true rfl, Nat.le_of_ble_eq_true rfl⟩) (pre_S X hw _) rfl rfl hl.1 rfl (lv_room (Nat.le_of_ble_eq_true rfl)) dX12_lot_29 ⟨Nat.le_of_ble_eq_true rfl, Nat.le_of_ble_eq_true rfl⟩) 0 0 (Nat.le_of_ble_eq_true rfl) (Nat.le_of_ble_eq_true rfl) (fun rr_29 S2 H locs hp hw hfr hnw => ?_)
    obtain ⟨e2_29, hp⟩ := hp
    subst e2_29
    rcases hp with ⟨b_29, er_29⟩ | ⟨b_29, er_29⟩ <;> subst er_29
    · have z_29 := trivial
      refine lv_if_eq (tgt := 60) X.1 X.2.1 dX12_lot_32 (by decide) (fun c_32 => absurd c_32 (by decide)) (fun c_32 => ?_)
      refine lv_iload X.1 X.2.1 dX12_lot_35 (lv_at hl 4 rfl) ?_
      refine lv_bipush (v := 40) X.1 X.2.1 dX12_lot_37 (by decide) ?_
      refine lv_sipush (v := 200) X.1 X.2.1 dX12_lot_39 (by decide) ?_
      refine k_i (rm := { frames := 1, cells := 0, slots := 0, locals := 40 }) (av := [.int (a4), .int 40, .int 200]) X hw (va_runS (As := [.int (a4), .int 40, .int 200]) (rest := []) (cfix X) (c_X12_within l G cy S_1 _ (a4) (40) (200)) (cwS 3 X.2.2.2.1 gX12_lot_X12_within rfl rfl rfl (by decide +kernel) ⟨Nat.le_of_ble_eq_true rfl, Nat.le_of_ble_eq_true rfl⟩) (pre_S X hw _) rfl rfl hl.1 rfl (lv_room (Nat.le_of_ble_eq_true rfl)) dX12_lot_42 ⟨Nat.le_of_ble_eq_true rfl, Nat.le_of_ble_eq_true rfl⟩) 0 0 (Nat.le_of_ble_eq_true rfl) (Nat.le_of_ble_eq_true rfl) (fun rr_42 S2 H locs hp hw hfr hnw => ?_)
      obtain ⟨e2_42, hp⟩ := hp
      subst e2_42
      rcases hp with ⟨b_42, er_42⟩ | ⟨b_42, er_42⟩ <;> subst er_42
      · have z_42 := trivial
        refine lv_if_eq (tgt := 60) X.1 X.2.1 dX12_lot_45 (by decide) (fun c_45 => absurd c_45 (by decide)) (fun c_45 => ?_)
        refine lv_iload X.1 X.2.1 dX12_lot_48 (lv_at hl 5 rfl) ?_
        refine lv_iconst (v := 0) X.1 X.2.1 dX12_lot_50 (by decide) ?_
        refine lv_sipush (v := 200) X.1 X.2.1 dX12_lot_51 (by decide) ?_
        refine k_i (rm := { frames := 1, cells := 0, slots := 0, locals := 40 }) (av := [.int (a5), .int 0, .int 200]) X hw (va_runS (As := [.int (a5), .int 0, .int 200]) (rest := []) (cfix X) (c_X12_within l G cy S_1 _ (a5) (0) (200)) (cwS 3 X.2.2.2.1 gX12_lot_X12_within rfl rfl rfl (by decide +kernel) ⟨Nat.le_of_ble_eq_true rfl, Nat.le_of_ble_eq_true rfl⟩) (pre_S X hw _) rfl rfl hl.1 rfl (lv_room (Nat.le_of_ble_eq_true rfl)) dX12_lot_54 ⟨Nat.le_of_ble_eq_true rfl, Nat.le_of_ble_eq_true rfl⟩) 0 0 (Nat.le_of_ble_eq_true rfl) (Nat.le_of_ble_eq_true rfl) (fun rr_54 S2 H locs hp hw hfr hnw => ?_)
        obtain ⟨e2_54, hp⟩ := hp
        subst e2_54
        rcases hp with ⟨b_54, er_54⟩ | ⟨b_54, er_54⟩ <;> subst er_54
        · have z_54 := trivial
          refine lv_if_ne (tgt := 62) X.1 X.2.1 dX12_lot_57 (by decide) (fun c_57 => ?_) (fun c_57 => absurd c_57 (by decide))
          refine lv_aload_n X.1 X.2.1 dX12_lot_62 rfl (lv_at hl 0 rfl) ?_
          refine r_getR (g := 1202) X hw hat_mo 2 rf_q1202 (by decide) rfl inn_X12_lot_12 (by decide) (X.2.2.2.1 (.fieldLink RX12 7 "SilkMillModel" "lotMany" "[I") (by decide +kernel)) rfl (gv_1202 _ _) dX12_lot_63 ?_
          refine lv_aload_n X.1 X.2.1 dX12_lot_66 rfl (lv_at hl 0 rfl) ?_
          refine r_get (v := .int 0) X hw hat_mo 1 (by decide) rfl inn_X12_lot_12 (by decide) (X.2.2.2.1 (.fieldLink RX12 165 "SilkMillModel" "lots" "I") (by decide +kernel)) rfl ((gv_1201 _ _).trans (congrArg (fun z => some (Value.int z)) ci_1201)) dX12_lot_67 ?_
          refine lv_iload_n X.1 X.2.1 dX12_lot_70 rfl (lv_at hl 1 rfl) ?_
          refine r_iast X hw hat_q1202 (by rw [ln_q1202]; exact vp_in_iff.mpr (by decide +kernel)) dX12_lot_71 (fun H locs hw => ?_)
          generalize eS_3 : sA S_1 q1202 (upd (pA S_1 q1202) (Int32.toNatClampNeg (0)) a1) = S_3 at hw
          have hat_mo : At S_3 mo 12 := by rw [← eS_3]; exact At_sA hat_mo
          have hat_q1202 : At S_3 q1202 14 := by rw [← eS_3]; exact At_sA hat_q1202
          have hat_q1203 : At S_3 q1203 14 := by rw [← eS_3]; exact At_sA hat_q1203
          have hat_q1204 : At S_3 q1204 14 := by rw [← eS_3]; exact At_sA hat_q1204
          have hat_q1205 : At S_3 q1205 14 := by rw [← eS_3]; exact At_sA hat_q1205
          have hat_q1206 : At S_3 q1206 14 := by rw [← eS_3]; exact At_sA hat_q1206
          have rf_q1202 : pR S_3 1202 mo = some q1202 := by rw [← eS_3, pR_sA]; exact rf_q1202
          have rf_q1203 : pR S_3 1203 mo = some q1203 := by rw [← eS_3, pR_sA]; exact rf_q1203
          have rf_q1204 : pR S_3 1204 mo = some q1204 := by rw [← eS_3, pR_sA]; exact rf_q1204
          have rf_q1205 : pR S_3 1205 mo = some q1205 := by rw [← eS_3, pR_sA]; exact rf_q1205
          have rf_q1206 : pR S_3 1206 mo = some q1206 := by rw [← eS_3, pR_sA]; exact rf_q1206
          have ci_1201 : pI S_3 1201 mo = 0 := by rw [← eS_3, pI_sA]; exact ci_1201
          have hc_2 : pI S_3 1200 mo = 0 := by rw [← eS_3, pI_sA]; exact hc_2
          have ln_q1202 : pN S_3 q1202 = 10 := by rw [← eS_3, pN_sA]; exact ln_q1202
          have ln_q1203 : pN S_3 q1203 = 10 := by rw [← eS_3, pN_sA]; exact ln_q1203
          have ln_q1204 : pN S_3 q1204 = 10 := by rw [← eS_3, pN_sA]; exact ln_q1204
          have ln_q1205 : pN S_3 q1205 = 10 := by rw [← eS_3, pN_sA]; exact ln_q1205
          have ln_q1206 : pN S_3 q1206 = 10 := by rw [← eS_3, pN_sA]; exact ln_q1206
          refine lv_aload_n X.1 X.2.1 dX12_lot_72 rfl (lv_at hl 0 rfl) ?_
          refine r_getR (g := 1203) X hw hat_mo 3 rf_q1203 (by decide) rfl inn_X12_lot_12 (by decide) (X.2.2.2.1 (.fieldLink RX12 13 "SilkMillModel" "lotSeed" "[I") (by decide +kernel)) rfl (gv_1203 _ _) dX12_lot_73 ?_
          refine lv_aload_n X.1 X.2.1 dX12_lot_76 rfl (lv_at hl 0 rfl) ?_
          refine r_get (v := .int 0) X hw hat_mo 1 (by decide) rfl inn_X12_lot_12 (by decide) (X.2.2.2.1 (.fieldLink RX12 165 "SilkMillModel" "lots" "I") (by decide +kernel)) rfl ((gv_1201 _ _).trans (congrArg (fun z => some (Value.int z)) ci_1201)) dX12_lot_77 ?_
          refine lv_iload_n X.1 X.2.1 dX12_lot_80 rfl (lv_at hl 2 rfl) ?_
          refine r_iast X hw hat_q1203 (by rw [ln_q1203]; exact vp_in_iff.mpr (by decide +kernel)) dX12_lot_81 (fun H locs hw => ?_)
          generalize eS_4 : sA S_3 q1203 (upd (pA S_3 q1203) (Int32.toNatClampNeg (0)) a2) = S_4 at hw
          have hat_mo : At S_4 mo 12 := by rw [← eS_4]; exact At_sA hat_mo
          have hat_q1202 : At S_4 q1202 14 := by rw [← eS_4]; exact At_sA hat_q1202
          have hat_q1203 : At S_4 q1203 14 := by rw [← eS_4]; exact At_sA hat_q1203
          have hat_q1204 : At S_4 q1204 14 := by rw [← eS_4]; exact At_sA hat_q1204
          have hat_q1205 : At S_4 q1205 14 := by rw [← eS_4]; exact At_sA hat_q1205
          have hat_q1206 : At S_4 q1206 14 := by rw [← eS_4]; exact At_sA hat_q1206
          have rf_q1202 : pR S_4 1202 mo = some q1202 := by rw [← eS_4, pR_sA]; exact rf_q1202
          have rf_q1203 : pR S_4 1203 mo = some q1203 := by rw [← eS_4, pR_sA]; exact rf_q1203
          have rf_q1204 : pR S_4 1204 mo = some q1204 := by rw [← eS_4, pR_sA]; exact rf_q1204
          have rf_q1205 : pR S_4 1205 mo = some q1205 := by rw [← eS_4, pR_sA]; exact rf_q1205
          have rf_q1206 : pR S_4 1206 mo = some q1206 := by rw [← eS_4, pR_sA]; exact rf_q1206
          have ci_1201 : pI S_4 1201 mo = 0 := by rw [← eS_4, pI_sA]; exact ci_1201
          have hc_2 : pI S_4 1200 mo = 0 := by rw [← eS_4, pI_sA]; exact hc_2
          have ln_q1202 : pN S_4 q1202 = 10 := by rw [← eS_4, pN_sA]; exact ln_q1202
          have ln_q1203 : pN S_4 q1203 = 10 := by rw [← eS_4, pN_sA]; exact ln_q1203
          have ln_q1204 : pN S_4 q1204 = 10 := by rw [← eS_4, pN_sA]; exact ln_q1204
          have ln_q1205 : pN S_4 q1205 = 10 := by rw [← eS_4, pN_sA]; exact ln_q1205
          have ln_q1206 : pN S_4 q1206 = 10 := by rw [← eS_4, pN_sA]; exact ln_q1206
          refine lv_aload_n X.1 X.2.1 dX12_lot_82 rfl (lv_at hl 0 rfl) ?_
          refine r_getR (g := 1204) X hw hat_mo 4 rf_q1204 (by decide) rfl inn_X12_lot_12 (by decide) (X.2.2.2.1 (.fieldLink RX12 16 "SilkMillModel" "lotBase" "[I") (by decide +kernel)) rfl (gv_1204 _ _) dX12_lot_83 ?_
          refine lv_aload_n X.1 X.2.1 dX12_lot_86 rfl (lv_at hl 0 rfl) ?_
          refine r_get (v := .int 0) X hw hat_mo 1 (by decide) rfl inn_X12_lot_12 (by decide) (X.2.2.2.1 (.fieldLink RX12 165 "SilkMillModel" "lots" "I") (by decide +kernel)) rfl ((gv_1201 _ _).trans (congrArg (fun z => some (Value.int z)) ci_1201)) dX12_lot_87 ?_
          refine lv_iload_n X.1 X.2.1 dX12_lot_90 rfl (lv_at hl 3 rfl) ?_
          refine r_iast X hw hat_q1204 (by rw [ln_q1204]; exact vp_in_iff.mpr (by decide +kernel)) dX12_lot_91 (fun H locs hw => ?_)
          generalize eS_5 : sA S_4 q1204 (upd (pA S_4 q1204) (Int32.toNatClampNeg (0)) a3) = S_5 at hw
          have hat_mo : At S_5 mo 12 := by rw [← eS_5]; exact At_sA hat_mo
          have hat_q1202 : At S_5 q1202 14 := by rw [← eS_5]; exact At_sA hat_q1202
          have hat_q1203 : At S_5 q1203 14 := by rw [← eS_5]; exact At_sA hat_q1203
          have hat_q1204 : At S_5 q1204 14 := by rw [← eS_5]; exact At_sA hat_q1204
          have hat_q1205 : At S_5 q1205 14 := by rw [← eS_5]; exact At_sA hat_q1205
          have hat_q1206 : At S_5 q1206 14 := by rw [← eS_5]; exact At_sA hat_q1206
          have rf_q1202 : pR S_5 1202 mo = some q1202 := by rw [← eS_5, pR_sA]; exact rf_q1202
          have rf_q1203 : pR S_5 1203 mo = some q1203 := by rw [← eS_5, pR_sA]; exact rf_q1203
          have rf_q1204 : pR S_5 1204 mo = some q1204 := by rw [← eS_5, pR_sA]; exact rf_q1204
          have rf_q1205 : pR S_5 1205 mo = some q1205 := by rw [← eS_5, pR_sA]; exact rf_q1205
          have rf_q1206 : pR S_5 1206 mo = some q1206 := by rw [← eS_5, pR_sA]; exact rf_q1206
          have ci_1201 : pI S_5 1201 mo = 0 := by rw [← eS_5, pI_sA]; exact ci_1201
          have hc_2 : pI S_5 1200 mo = 0 := by rw [← eS_5, pI_sA]; exact hc_2
          have ln_q1202 : pN S_5 q1202 = 10 := by rw [← eS_5, pN_sA]; exact ln_q1202
          have ln_q1203 : pN S_5 q1203 = 10 := by rw [← eS_5, pN_sA]; exact ln_q1203
          have ln_q1204 : pN S_5 q1204 = 10 := by rw [← eS_5, pN_sA]; exact ln_q1204
          have ln_q1205 : pN S_5 q1205 = 10 := by rw [← eS_5, pN_sA]; exact ln_q1205
          have ln_q1206 : pN S_5 q1206 = 10 := by rw [← eS_5, pN_sA]; exact ln_q1206
          refine lv_aload_n X.1 X.2.1 dX12_lot_92 rfl (lv_at hl 0 rfl) ?_
          refine r_getR (g := 1205) X hw hat_mo 5 rf_q1205 (by decide) rfl inn_X12_lot_12 (by decide) (X.2.2.2.1 (.fieldLink RX12 19 "SilkMillModel" "lotLong" "[I") (by decide +kernel)) rfl (gv_1205 _ _) dX12_lot_93 ?_
          refine lv_aload_n X.1 X.2.1 dX12_lot_96 rfl (lv_at hl 0 rfl) ?_
          refine r_get (v := .int 0) X hw hat_mo 1 (by decide) rfl inn_X12_lot_12 (by decide) (X.2.2.2.1 (.fieldLink RX12 165 "SilkMillModel" "lots" "I") (by decide +kernel)) rfl ((gv_1201 _ _).trans (congrArg (fun z => some (Value.int z)) ci_1201)) dX12_lot_97 ?_
          refine lv_iload X.1 X.2.1 dX12_lot_100 (lv_at hl 4 rfl) ?_
          refine r_iast X hw hat_q1205 (by rw [ln_q1205]; exact vp_in_iff.mpr (by decide +kernel)) dX12_lot_102 (fun H locs hw => ?_)
          generalize eS_6 : sA S_5 q1205 (upd (pA S_5 q1205) (Int32.toNatClampNeg (0)) a4) = S_6 at hw
          have hat_mo : At S_6 mo 12 := by rw [← eS_6]; exact At_sA hat_mo
          have hat_q1202 : At S_6 q1202 14 := by rw [← eS_6]; exact At_sA hat_q1202
          have hat_q1203 : At S_6 q1203 14 := by rw [← eS_6]; exact At_sA hat_q1203
          have hat_q1204 : At S_6 q1204 14 := by rw [← eS_6]; exact At_sA hat_q1204
          have hat_q1205 : At S_6 q1205 14 := by rw [← eS_6]; exact At_sA hat_q1205
          have hat_q1206 : At S_6 q1206 14 := by rw [← eS_6]; exact At_sA hat_q1206
          have rf_q1202 : pR S_6 1202 mo = some q1202 := by rw [← eS_6, pR_sA]; exact rf_q1202
          have rf_q1203 : pR S_6 1203 mo = some q1203 := by rw [← eS_6, pR_sA]; exact rf_q1203
          have rf_q1204 : pR S_6 1204 mo = some q1204 := by rw [← eS_6, pR_sA]; exact rf_q1204
          have rf_q1205 : pR S_6 1205 mo = some q1205 := by rw [← eS_6, pR_sA]; exact rf_q1205
          have rf_q1206 : pR S_6 1206 mo = some q1206 := by rw [← eS_6, pR_sA]; exact rf_q1206
          have ci_1201 : pI S_6 1201 mo = 0 := by rw [← eS_6, pI_sA]; exact ci_1201
          have hc_2 : pI S_6 1200 mo = 0 := by rw [← eS_6, pI_sA]; exact hc_2
          have ln_q1202 : pN S_6 q1202 = 10 := by rw [← eS_6, pN_sA]; exact ln_q1202
          have ln_q1203 : pN S_6 q1203 = 10 := by rw [← eS_6, pN_sA]; exact ln_q1203
          have ln_q1204 : pN S_6 q1204 = 10 := by rw [← eS_6, pN_sA]; exact ln_q1204
          have ln_q1205 : pN S_6 q1205 = 10 := by rw [← eS_6, pN_sA]; exact ln_q1205
          have ln_q1206 : pN S_6 q1206 = 10 := by rw [← eS_6, pN_sA]; exact ln_q1206
          refine lv_aload_n X.1 X.2.1 dX12_lot_103 rfl (lv_at hl 0 rfl) ?_
          refine r_getR (g := 1206) X hw hat_mo 6 rf_q1206 (by decide) rfl inn_X12_lot_12 (by decide) (X.2.2.2.1 (.fieldLink RX12 22 "SilkMillModel" "lotFrail" "[I") (by decide +kernel)) rfl (gv_1206 _ _) dX12_lot_104 ?_
          refine lv_aload_n X.1 X.2.1 dX12_lot_107 rfl (lv_at hl 0 rfl) ?_
          refine r_get (v := .int 0) X hw hat_mo 1 (by decide) rfl inn_X12_lot_12 (by decide) (X.2.2.2.1 (.fieldLink RX12 165 "SilkMillModel" "lots" "I") (by decide +kernel)) rfl ((gv_1201 _ _).trans (congrArg (fun z => some (Value.int z)) ci_1201)) dX12_lot_108 ?_
          refine lv_iload X.1 X.2.1 dX12_lot_111 (lv_at hl 5 rfl) ?_
          refine r_iast X hw hat_q1206 (by rw [ln_q1206]; exact vp_in_iff.mpr (by decide +kernel)) dX12_lot_113 (fun H locs hw => ?_)
          generalize eS_7 : sA S_6 q1206 (upd (pA S_6 q1206) (Int32.toNatClampNeg (0)) a5) = S_7 at hw
          have hat_mo : At S_7 mo 12 := by rw [← eS_7]; exact At_sA hat_mo
          have hat_q1202 : At S_7 q1202 14 := by rw [← eS_7]; exact At_sA hat_q1202
          have hat_q1203 : At S_7 q1203 14 := by rw [← eS_7]; exact At_sA hat_q1203
          have hat_q1204 : At S_7 q1204 14 := by rw [← eS_7]; exact At_sA hat_q1204
          have hat_q1205 : At S_7 q1205 14 := by rw [← eS_7]; exact At_sA hat_q1205
          have hat_q1206 : At S_7 q1206 14 := by rw [← eS_7]; exact At_sA hat_q1206
          have rf_q1202 : pR S_7 1202 mo = some q1202 := by rw [← eS_7, pR_sA]; exact rf_q1202
          have rf_q1203 : pR S_7 1203 mo = some q1203 := by rw [← eS_7, pR_sA]; exact rf_q1203
          have rf_q1204 : pR S_7 1204 mo = some q1204 := by rw [← eS_7, pR_sA]; exact rf_q1204
          have rf_q1205 : pR S_7 1205 mo = some q1205 := by rw [← eS_7, pR_sA]; exact rf_q1205
          have rf_q1206 : pR S_7 1206 mo = some q1206 := by rw [← eS_7, pR_sA]; exact rf_q1206
          have ci_1201 : pI S_7 1201 mo = 0 := by rw [← eS_7, pI_sA]; exact ci_1201
          have hc_2 : pI S_7 1200 mo = 0 := by rw [← eS_7, pI_sA]; exact hc_2
          have ln_q1202 : pN S_7 q1202 = 10 := by rw [← eS_7, pN_sA]; exact ln_q1202
          have ln_q1203 : pN S_7 q1203 = 10 := by rw [← eS_7, pN_sA]; exact ln_q1203
          have ln_q1204 : pN S_7 q1204 = 10 := by rw [← eS_7, pN_sA]; exact ln_q1204
          have ln_q1205 : pN S_7 q1205 = 10 := by rw [← eS_7, pN_sA]; exact ln_q1205
          have ln_q1206 : pN S_7 q1206 = 10 := by rw [← eS_7, pN_sA]; exact ln_q1206
          refine lv_aload_n X.1 X.2.1 dX12_lot_114 rfl (lv_at hl 0 rfl) ?_
          refine lv_dup X.1 X.2.1 dX12_lot_115 rfl ?_
          refine r_get (v := .int 0) X hw hat_mo 1 (by decide) rfl inn_X12_lot_12 (by decide) (X.2.2.2.1 (.fieldLink RX12 165 "SilkMillModel" "lots" "I") (by decide +kernel)) rfl ((gv_1201 _ _).trans (congrArg (fun z => some (Value.int z)) ci_1201)) dX12_lot_116 ?_
          refine lv_iconst (v := 1) X.1 X.2.1 dX12_lot_119 (by decide) ?_
          refine lv_iadd X.1 X.2.1 dX12_lot_120 ?_
          refine lv_topi (fun v_8 ev_8 => ?_)
          obtain rfl : v_8 = 1 := ev_8.trans (by decide +kernel)
          refine r_putI (v := 1) X hw hat_mo 1 1201 tyX12 (by decide) rfl inn_X12_lot_12 tyX12_ok nmX12 (by decide) (X.2.2.2.1 (.fieldLink RX12 165 "SilkMillModel" "lots" "I") (by decide +kernel)) rfl (Or.inl rfl) rfl rfl (Nat.le_of_ble_eq_true rfl) (st_1201 _ _) dX12_lot_121 (fun H locs hw => ?_)
          generalize eS_9 : sI S_7 1201 mo 1 = S_9 at hw
          have hat_mo : At S_9 mo 12 := by rw [← eS_9]; exact At_sI hat_mo
          have hat_q1202 : At S_9 q1202 14 := by rw [← eS_9]; exact At_sI hat_q1202
          have hat_q1203 : At S_9 q1203 14 := by rw [← eS_9]; exact At_sI hat_q1203
          have hat_q1204 : At S_9 q1204 14 := by rw [← eS_9]; exact At_sI hat_q1204
          have hat_q1205 : At S_9 q1205 14 := by rw [← eS_9]; exact At_sI hat_q1205
          have hat_q1206 : At S_9 q1206 14 := by rw [← eS_9]; exact At_sI hat_q1206
          have rf_q1202 : pR S_9 1202 mo = some q1202 := by rw [← eS_9, pR_sI]; exact rf_q1202
          have rf_q1203 : pR S_9 1203 mo = some q1203 := by rw [← eS_9, pR_sI]; exact rf_q1203
          have rf_q1204 : pR S_9 1204 mo = some q1204 := by rw [← eS_9, pR_sI]; exact rf_q1204
          have rf_q1205 : pR S_9 1205 mo = some q1205 := by rw [← eS_9, pR_sI]; exact rf_q1205
          have rf_q1206 : pR S_9 1206 mo = some q1206 := by rw [← eS_9, pR_sI]; exact rf_q1206
          have hc_2 : pI S_9 1200 mo = 0 := by rw [← eS_9]; exact (pI_sI_nf (by decide)).trans hc_2
          have ln_q1202 : pN S_9 q1202 = 10 := by rw [← eS_9, pN_sI]; exact ln_q1202
          have ln_q1203 : pN S_9 q1203 = 10 := by rw [← eS_9, pN_sI]; exact ln_q1203
          have ln_q1204 : pN S_9 q1204 = 10 := by rw [← eS_9, pN_sI]; exact ln_q1204
          have ln_q1205 : pN S_9 q1205 = 10 := by rw [← eS_9, pN_sI]; exact ln_q1205
          have ln_q1206 : pN S_9 q1206 = 10 := by rw [← eS_9, pN_sI]; exact ln_q1206
          have hc_10 : pI S_9 1201 mo = 1 := by rw [← eS_9]; exact pI_sI_same
          refine lv_aload_n X.1 X.2.1 dX12_lot_124 rfl (lv_at hl 0 rfl) ?_
          refine r_get (v := .int 1) X hw hat_mo 1 (by decide) rfl inn_X12_lot_12 (by decide) (X.2.2.2.1 (.fieldLink RX12 165 "SilkMillModel" "lots" "I") (by decide +kernel)) rfl ((gv_1201 _ _).trans (congrArg (fun z => some (Value.int z)) hc_10)) dX12_lot_125 ?_
          refine lv_iconst (v := 1) X.1 X.2.1 dX12_lot_128 (by decide) ?_
          refine lv_isub X.1 X.2.1 dX12_lot_129 ?_
          refine lv_topi (fun v_11 ev_11 => ?_)
          obtain rfl : v_11 = 0 := ev_11.trans (by decide +kernel)
          exact ret_i X hw hr hlocks (Nat.le_of_ble_eq_true rfl) (Nat.le_of_ble_eq_true rfl) (if_pos ⟨b_18, b_29, b_42, b_54⟩).symm dX12_lot_130
        · have z_54 := trivial
          refine lv_if_ne (tgt := 62) X.1 X.2.1 dX12_lot_57 (by decide) (fun c_57 => absurd c_57 (by decide)) (fun c_57 => ?_)
          refine lv_iconst (v := (-1)) X.1 X.2.1 dX12_lot_60 (by decide) ?_
          exact ret_i X hw hr hlocks (Nat.le_of_ble_eq_true rfl) (Nat.le_of_ble_eq_true rfl) (if_neg (fun h => b_54 h.2.2.2)).symm dX12_lot_61
      · have z_42 := trivial
        refine lv_if_eq (tgt := 60) X.1 X.2.1 dX12_lot_45 (by decide) (fun c_45 => ?_) (fun c_45 => absurd c_45 (by decide))
        refine lv_iconst (v := (-1)) X.1 X.2.1 dX12_lot_60 (by decide) ?_
        exact ret_i X hw hr hlocks (Nat.le_of_ble_eq_true rfl) (Nat.le_of_ble_eq_true rfl) (if_neg (fun h => b_42 h.2.2.1)).symm dX12_lot_61
    · have z_29 := trivial
      refine lv_if_eq (tgt := 60) X.1 X.2.1 dX12_lot_32 (by decide) (fun c_32 => ?_) (fun c_32 => absurd c_32 (by decide))
      refine lv_iconst (v := (-1)) X.1 X.2.1 dX12_lot_60 (by decide) ?_
      exact ret_i X hw hr hlocks (Nat.le_of_ble_eq_true rfl) (Nat.le_of_ble_eq_true rfl) (if_neg (fun h => b_29 h.2.1)).symm dX12_lot_61
  · have z_18 := trivial
    refine lv_if_eq (tgt := 60) X.1 X.2.1 dX12_lot_21 (by decide) (fun c_21 => ?_) (fun c_21 => absurd c_21 (by decide))
    refine lv_iconst (v := (-1)) X.1 X.2.1 dX12_lot_60 (by decide) ?_
    exact ret_i X hw hr hlocks (Nat.le_of_ble_eq_true rfl) (Nat.le_of_ble_eq_true rfl) (if_neg (fun h => b_18 h.1)).symm dX12_lot_61
end
section
set_option maxRecDepth 20000 in
theorem ggX12_take_X12_within : GoodIn wsX12_take wsX12_within := goodIn_r _ [11] (by decide +kernel) (by decide +kernel)
set_option maxRecDepth 20000 in
theorem gX12_take_X12_within : GoodIn wsX12_take (va_wsS RX12 168 yX12_within wsX12_within) := goodIn_app (goodIn_of _ (by decide +kernel)) ggX12_take_X12_within
theorem dX12_take_0 : decode cX12_take 0 = .ok (.aload_n 0, 1) := by decide +kernel
theorem dX12_take_1 : decode cX12_take 1 = .ok (.iconst 0, 1) := by decide +kernel
theorem dX12_take_2 : decode cX12_take 2 = .ok (.putfield 161, 3) := by decide +kernel
theorem dX12_take_5 : decode cX12_take 5 = .ok (.iload_n 1, 1) := by decide +kernel
theorem dX12_take_6 : decode cX12_take 6 = .ok (.iconst 0, 1) := by decide +kernel
theorem dX12_take_7 : decode cX12_take 7 = .ok (.bipush 15, 2) := by decide +kernel
theorem dX12_take_9 : decode cX12_take 9 = .ok (.invokestatic 168, 3) := by decide +kernel
theorem dX12_take_12 : decode cX12_take 12 = .ok (.ifCond .eq 12, 3) := by decide +kernel
theorem dX12_take_15 : decode cX12_take 15 = .ok (.iload_n 2, 1) := by decide +kernel
theorem dX12_take_16 : decode cX12_take 16 = .ok (.iconst 0, 1) := by decide +kernel
theorem dX12_take_17 : decode cX12_take 17 = .ok (.iconst 2, 1) := by decide +kernel
theorem dX12_take_18 : decode cX12_take 18 = .ok (.invokestatic 168, 3) := by decide +kernel
theorem dX12_take_21 : decode cX12_take 21 = .ok (.ifCond .ne 5, 3) := by decide +kernel
theorem dX12_take_24 : decode cX12_take 24 = .ok (.iconst (-1), 1) := by decide +kernel
theorem dX12_take_25 : decode cX12_take 25 = .ok (.ireturn, 1) := by decide +kernel
theorem dX12_take_26 : decode cX12_take 26 = .ok (.aload_n 0, 1) := by decide +kernel
theorem dX12_take_27 : decode cX12_take 27 = .ok (.getfield 125, 3) := by decide +kernel
theorem dX12_take_30 : decode cX12_take 30 = .ok (.iload_n 1, 1) := by decide +kernel
theorem dX12_take_31 : decode cX12_take 31 = .ok (.baload, 1) := by decide +kernel
theorem dX12_take_32 : decode cX12_take 32 = .ok (.ifCond .ne 6, 3) := by decide +kernel
theorem dX12_take_35 : decode cX12_take 35 = .ok (.bipush (-2), 2) := by decide +kernel
theorem dX12_take_37 : decode cX12_take 37 = .ok (.ireturn, 1) := by decide +kernel
set_option maxRecDepth 20000 in
theorem ggX12_copy_X12_isWord : GoodIn wsX12_copy wsX12_isWord := goodIn_r _ [9, 10, 11, 2, 12, 13, 8, 14, 15, 16, 17, 18, 19, 20, 21, 22, 23, 24, 25, 26, 27, 28, 29, 30, 31, 32, 33, 34, 35, 36, 37, 38, 39, 40, 41, 42, 43, 44, 45, 46, 47, 48, 49, 50, 51, 52, 53, 54, 55, 56, 57, 58, 59, 60, 61, 62, 63, 64, 65, 66, 67, 68, 69, 70, 71, 72, 73, 74, 75, 76, 77, 78, 79, 80] (by decide +kernel) (by decide +kernel)
set_option maxRecDepth 20000 in
theorem gX12_copy_X12_isWord : GoodIn wsX12_copy (wsV RX12 400 RX12 yX12_isWord wsX12_isWord) := goodIn_app (goodIn_of _ (by decide +kernel)) ggX12_copy_X12_isWord
theorem dX12_copy_0 : decode cX12_copy 0 = .ok (.aload_n 0, 1) := by decide +kernel
theorem dX12_copy_1 : decode cX12_copy 1 = .ok (.iconst 0, 1) := by decide +kernel
theorem dX12_copy_2 : decode cX12_copy 2 = .ok (.putfield 161, 3) := by decide +kernel
theorem dX12_copy_5 : decode cX12_copy 5 = .ok (.aload_n 0, 1) := by decide +kernel
theorem dX12_copy_6 : decode cX12_copy 6 = .ok (.iload_n 1, 1) := by decide +kernel
theorem dX12_copy_7 : decode cX12_copy 7 = .ok (.invokevirtual 400, 3) := by decide +kernel
theorem dX12_copy_10 : decode cX12_copy 10 = .ok (.ifCond .eq 25, 3) := by decide +kernel
theorem dX12_copy_35 : decode cX12_copy 35 = .ok (.iconst 0, 1) := by decide +kernel
theorem dX12_copy_36 : decode cX12_copy 36 = .ok (.ireturn, 1) := by decide +kernel
set_option maxRecDepth 20000 in
theorem ggX12_number__X12_isWord : GoodIn wsX12_number_ wsX12_isWord := goodIn_r _ [8, 9, 10, 2, 11, 12, 7, 13, 14, 15, 16, 17, 18, 19, 20, 21, 22, 23, 24, 25, 26, 27, 28, 29, 30, 31, 32, 33, 34, 35, 36, 37, 38, 39, 40, 41, 42, 43, 44, 45, 46, 47, 48, 49, 50, 51, 52, 53, 54, 55, 56, 57, 58, 59, 60, 61, 62, 63, 64, 65, 66, 67, 68, 69, 70, 71, 72, 73, 74, 75, 76, 77, 78, 79] (by decide +kernel) (by decide +kernel)
set_option maxRecDepth 20000 in
theorem gX12_number__X12_isWord : GoodIn wsX12_number_ (wsV RX12 400 RX12 yX12_isWord wsX12_isWord) := goodIn_app (goodIn_of _ (by decide +kernel)) ggX12_number__X12_isWord
theorem dX12_number__0 : decode cX12_number_ 0 = .ok (.aload_n 0, 1) := by decide +kernel
theorem dX12_number__1 : decode cX12_number_ 1 = .ok (.iconst 0, 1) := by decide +kernel
theorem dX12_number__2 : decode cX12_number_ 2 = .ok (.putfield 161, 3) := by decide +kernel
theorem dX12_number__5 : decode cX12_number_ 5 = .ok (.aload_n 0, 1) := by decide +kernel
theorem dX12_number__6 : decode cX12_number_ 6 = .ok (.iload_n 1, 1) := by decide +kernel
theorem dX12_number__7 : decode cX12_number_ 7 = .ok (.invokevirtual 400, 3) := by decide +kernel
theorem dX12_number__10 : decode cX12_number_ 10 = .ok (.ifCond .eq 33, 3) := by decide +kernel
theorem dX12_number__43 : decode cX12_number_ 43 = .ok (.iconst (-1), 1) := by decide +kernel
theorem dX12_number__44 : decode cX12_number_ 44 = .ok (.ireturn, 1) := by decide +kernel
theorem inn_X12_copy_12 : ∀ w ∈ u_ws RX12 TX12 66, w ∈ wsX12_copy := fun w h => List.mem_cons_of_mem _ (List.mem_append_right _ h)
theorem inn_X12_number__12 : ∀ w ∈ u_ws RX12 TX12 66, w ∈ wsX12_number_ := fun w h => List.mem_cons_of_mem _ (List.mem_append_right _ h)
theorem inn_X12_take_12 : ∀ w ∈ u_ws RX12 TX12 66, w ∈ wsX12_take := fun w h => List.mem_cons_of_mem _ (List.mem_append_right _ h)
end
section
set_option maxHeartbeats 4000000 in
set_option maxRecDepth 100000 in
theorem c_X12_take (l : Launch) (G : va_G) (cy : Nat → ClassId) (S : PS) (sz : Nat) (mo : Nat) (a1 : Int32) (a2 : Int32) (hF : FM S mo) : Ci l yX12_take wsX12_take ({ frames := 5, cells := 0, slots := 0, locals := 200 }) G cy S sz [.ref mo, .int (a1), .int (a2)] (fun (r : Int32) (S9 : PS) => r = takV a1 a2) := by
  refine ent_m (cc := cX12_take) (maxL := 5) (ret := (some .int)) (by decide) rfl (Nat.le_of_ble_eq_true rfl) ?_
  intro p e s m below meth c ls X hr hlocks hin hw hl hsz
  subst hsz
  have X : Cx p c cX12_take 5 s [.ref mo, .int (a1), .int (a2)].toArray wsX12_take RX12 m G cy (AS S s.heap.size) := X
  have hl : lv_has ls 5 [(0, .ref mo), (1, .int (a1)), (2, .int (a2))] := hl
  obtain ⟨hat_mo, hci, ci_1229, hars, hz53, hz39⟩ := hF
  obtain ⟨q1253, rf_q1253, hat_q1253, ln_q1253⟩ := hars (1253, 15, 16) (by decide +kernel)
  have rf_q1253 : pR S 1253 mo = some q1253 := rf_q1253
  have hat_q1253 : At S q1253 15 := hat_q1253
  have ln_q1253 : pN S q1253 = 16 := ln_q1253
  have hz := hz53 _ rf_q1253
  refine lv_aload_n X.1 X.2.1 dX12_take_0 rfl (lv_at hl 0 rfl) ?_
  refine lv_iconst (v := 0) X.1 X.2.1 dX12_take_1 (by decide) ?_
  refine r_putI (v := 0) X hw hat_mo 0 1200 tyX12 (by decide) rfl inn_X12_take_12 tyX12_ok nmX12 (by decide) (X.2.2.2.1 (.fieldLink RX12 161 "SilkMillModel" "thrown" "I") (by decide +kernel)) rfl (Or.inl rfl) rfl rfl (Nat.le_of_ble_eq_true rfl) (st_1200 _ _) dX12_take_2 (fun H locs hw => ?_)
  generalize eS_1 : sI S 1200 mo 0 = S_1 at hw
  have hat_mo : At S_1 mo 12 := by rw [← eS_1]; exact At_sI hat_mo
  have hat_q1253 : At S_1 q1253 15 := by rw [← eS_1]; exact At_sI hat_q1253
  have rf_q1253 : pR S_1 1253 mo = some q1253 := by rw [← eS_1, pR_sI]; exact rf_q1253
  have ln_q1253 : pN S_1 q1253 = 16 := by rw [← eS_1, pN_sI]; exact ln_q1253
  have hz : ∀ j, pA S_1 q1253 j = 0 := by rw [← eS_1, pA_sI]; exact hz
  have hc_2 : pI S_1 1200 mo = 0 := by rw [← eS_1]; exact pI_sI_same
  refine lv_iload_n X.1 X.2.1 dX12_take_5 rfl (lv_at hl 1 rfl) ?_
  refine lv_iconst (v := 0) X.1 X.2.1 dX12_take_6 (by decide) ?_
  refine lv_bipush (v := 15) X.1 X.2.1 dX12_take_7 (by decide) ?_
  refine k_i (rm := { frames := 1, cells := 0, slots := 0, locals := 40 }) (av := [.int (a1), .int 0, .int 15]) X hw (va_runS (As := [.int (a1), .int 0, .int 15]) (rest := []) (cfix X) (c_X12_within l G cy S_1 _ (a1) (0) (15)) (cwS 3 X.2.2.2.1 gX12_take_X12_within rfl rfl rfl (by decide +kernel) ⟨Nat.le_of_ble_eq_true rfl, Nat.le_of_ble_eq_true rfl⟩) (pre_S X hw _) rfl rfl hl.1 rfl (lv_room (Nat.le_of_ble_eq_true rfl)) dX12_take_9 ⟨Nat.le_of_ble_eq_true rfl, Nat.le_of_ble_eq_true rfl⟩) 0 0 (Nat.le_of_ble_eq_true rfl) (Nat.le_of_ble_eq_true rfl) (fun rr_9 S2 H locs hp hw hfr hnw => ?_)
  obtain ⟨e2_9, hp⟩ := hp
  subst e2_9
  rcases hp with ⟨b_9, er_9⟩ | ⟨b_9, er_9⟩ <;> subst er_9
  · have z_9 := trivial
    refine lv_if_eq (tgt := 24) X.1 X.2.1 dX12_take_12 (by decide) (fun c_12 => absurd c_12 (by decide)) (fun c_12 => ?_)
    refine lv_iload_n X.1 X.2.1 dX12_take_15 rfl (lv_at hl 2 rfl) ?_
    refine lv_iconst (v := 0) X.1 X.2.1 dX12_take_16 (by decide) ?_
    refine lv_iconst (v := 2) X.1 X.2.1 dX12_take_17 (by decide) ?_
    refine k_i (rm := { frames := 1, cells := 0, slots := 0, locals := 40 }) (av := [.int (a2), .int 0, .int 2]) X hw (va_runS (As := [.int (a2), .int 0, .int 2]) (rest := []) (cfix X) (c_X12_within l G cy S_1 _ (a2) (0) (2)) (cwS 3 X.2.2.2.1 gX12_take_X12_within rfl rfl rfl (by decide +kernel) ⟨Nat.le_of_ble_eq_true rfl, Nat.le_of_ble_eq_true rfl⟩) (pre_S X hw _) rfl rfl hl.1 rfl (lv_room (Nat.le_of_ble_eq_true rfl)) dX12_take_18 ⟨Nat.le_of_ble_eq_true rfl, Nat.le_of_ble_eq_true rfl⟩) 0 0 (Nat.le_of_ble_eq_true rfl) (Nat.le_of_ble_eq_true rfl) (fun rr_18 S2 H locs hp hw hfr hnw => ?_)
    obtain ⟨e2_18, hp⟩ := hp
    subst e2_18
    rcases hp with ⟨b_18, er_18⟩ | ⟨b_18, er_18⟩ <;> subst er_18
    · have z_18 := trivial
      refine lv_if_ne (tgt := 26) X.1 X.2.1 dX12_take_21 (by decide) (fun c_21 => ?_) (fun c_21 => absurd c_21 (by decide))
      refine lv_aload_n X.1 X.2.1 dX12_take_26 rfl (lv_at hl 0 rfl) ?_
      refine r_getR (g := 1253) X hw hat_mo 53 rf_q1253 (by decide) rfl inn_X12_take_12 (by decide) (X.2.2.2.1 (.fieldLink RX12 125 "SilkMillModel" "isLaid" "[Z") (by decide +kernel)) rfl (gv_1253 _ _) dX12_take_27 ?_
      refine lv_iload_n X.1 X.2.1 dX12_take_30 rfl (lv_at hl 1 rfl) ?_
      refine r_zald X hw hat_q1253 (by rw [ln_q1253]; exact wi_vp b_9 (by decide)) dX12_take_31 ?_
      refine lv_topi (fun v_3 ev_3 => ?_)
      obtain rfl : v_3 = 0 := ev_3.trans (hz _)
      refine lv_if_ne (tgt := 38) X.1 X.2.1 dX12_take_32 (by decide) (fun c_32 => absurd c_32 (by decide)) (fun c_32 => ?_)
      refine lv_bipush (v := (-2)) X.1 X.2.1 dX12_take_35 (by decide) ?_
      exact ret_i X hw hr hlocks (Nat.le_of_ble_eq_true rfl) (Nat.le_of_ble_eq_true rfl) (if_pos ⟨b_9, b_18⟩).symm dX12_take_37
    · have z_18 := trivial
      refine lv_if_ne (tgt := 26) X.1 X.2.1 dX12_take_21 (by decide) (fun c_21 => absurd c_21 (by decide)) (fun c_21 => ?_)
      refine lv_iconst (v := (-1)) X.1 X.2.1 dX12_take_24 (by decide) ?_
      exact ret_i X hw hr hlocks (Nat.le_of_ble_eq_true rfl) (Nat.le_of_ble_eq_true rfl) (if_neg (fun h => b_18 h.2)).symm dX12_take_25
  · have z_9 := trivial
    refine lv_if_eq (tgt := 24) X.1 X.2.1 dX12_take_12 (by decide) (fun c_12 => ?_) (fun c_12 => absurd c_12 (by decide))
    refine lv_iconst (v := (-1)) X.1 X.2.1 dX12_take_24 (by decide) ?_
    exact ret_i X hw hr hlocks (Nat.le_of_ble_eq_true rfl) (Nat.le_of_ble_eq_true rfl) (if_neg (fun h => b_9 h.1)).symm dX12_take_25
set_option maxHeartbeats 4000000 in
set_option maxRecDepth 100000 in
theorem c_X12_number_ (l : Launch) (G : va_G) (cy : Nat → ClassId) (S : PS) (sz : Nat) (mo : Nat) (a1 : Int32) (a2 : Int32) (hF : FM S mo) : Ci l yX12_number_ wsX12_number_ ({ frames := 5, cells := 0, slots := 0, locals := 200 }) G cy S sz [.ref mo, .int (a1), .int (a2)] (fun (r : Int32) (S9 : PS) => r = -1) := by
  refine ent_m (cc := cX12_number_) (maxL := 3) (ret := (some .int)) (by decide) rfl (Nat.le_of_ble_eq_true rfl) ?_
  intro p e s m below meth c ls X hr hlocks hin hw hl hsz
  subst hsz
  have X : Cx p c cX12_number_ 3 s [.ref mo, .int (a1), .int (a2)].toArray wsX12_number_ RX12 m G cy (AS S s.heap.size) := X
  have hl : lv_has ls 3 [(0, .ref mo), (1, .int (a1)), (2, .int (a2))] := hl
  obtain ⟨hat_mo, hci, ci_1229, hars, hz53, hz39⟩ := hF
  obtain ⟨q1253, rf_q1253, hat_q1253, ln_q1253⟩ := hars (1253, 15, 16) (by decide +kernel)
  have rf_q1253 : pR S 1253 mo = some q1253 := rf_q1253
  have hat_q1253 : At S q1253 15 := hat_q1253
  have ln_q1253 : pN S q1253 = 16 := ln_q1253
  have hz := hz53 _ rf_q1253
  refine lv_aload_n X.1 X.2.1 dX12_number__0 rfl (lv_at hl 0 rfl) ?_
  refine lv_iconst (v := 0) X.1 X.2.1 dX12_number__1 (by decide) ?_
  refine r_putI (v := 0) X hw hat_mo 0 1200 tyX12 (by decide) rfl inn_X12_number__12 tyX12_ok nmX12 (by decide) (X.2.2.2.1 (.fieldLink RX12 161 "SilkMillModel" "thrown" "I") (by decide +kernel)) rfl (Or.inl rfl) rfl rfl (Nat.le_of_ble_eq_true rfl) (st_1200 _ _) dX12_number__2 (fun H locs hw => ?_)
  generalize eS_1 : sI S 1200 mo 0 = S_1 at hw
  have hat_mo : At S_1 mo 12 := by rw [← eS_1]; exact At_sI hat_mo
  have hat_q1253 : At S_1 q1253 15 := by rw [← eS_1]; exact At_sI hat_q1253
  have rf_q1253 : pR S_1 1253 mo = some q1253 := by rw [← eS_1, pR_sI]; exact rf_q1253
  have ln_q1253 : pN S_1 q1253 = 16 := by rw [← eS_1, pN_sI]; exact ln_q1253
  have hz : ∀ j, pA S_1 q1253 j = 0 := by rw [← eS_1, pA_sI]; exact hz
  have hc_2 : pI S_1 1200 mo = 0 := by rw [← eS_1]; exact pI_sI_same
  refine lv_aload_n X.1 X.2.1 dX12_number__5 rfl (lv_at hl 0 rfl) ?_
  refine lv_iload_n X.1 X.2.1 dX12_number__6 rfl (lv_at hl 1 rfl) ?_
  refine k_i (rm := { frames := 3, cells := 0, slots := 0, locals := 120 }) (av := [.ref mo, .int (a1)]) X hw (va_runV (As := [.int (a1)]) (rest := []) (cfix X) (c_X12_isWord l G cy S_1 _ mo (a1) hat_mo q1253 rf_q1253 hat_q1253 ln_q1253 hz) (cwV 1 X.2.2.2.1 gX12_number__X12_isWord rfl rfl rfl (by decide +kernel) ⟨Nat.le_of_ble_eq_true rfl, Nat.le_of_ble_eq_true rfl⟩) (pre_V X hw _ hat_mo (by decide) rfl) rfl rfl hl.1 rfl (lv_room (Nat.le_of_ble_eq_true rfl)) dX12_number__7 ⟨Nat.le_of_ble_eq_true rfl, Nat.le_of_ble_eq_true rfl⟩) 0 0 (Nat.le_of_ble_eq_true rfl) (Nat.le_of_ble_eq_true rfl) (fun rr_7 S2 H locs hp hw hfr hnw => ?_)
  obtain ⟨e2_7, er_7⟩ := hp
  subst e2_7
  subst er_7
  refine lv_if_eq (tgt := 43) X.1 X.2.1 dX12_number__10 (by decide) (fun c_10 => ?_) (fun c_10 => absurd c_10 (by decide))
  refine lv_iconst (v := (-1)) X.1 X.2.1 dX12_number__43 (by decide) ?_
  exact ret_i X hw hr hlocks (Nat.le_of_ble_eq_true rfl) (Nat.le_of_ble_eq_true rfl) rfl dX12_number__44
set_option maxHeartbeats 4000000 in
set_option maxRecDepth 100000 in
theorem c_X12_copy (l : Launch) (G : va_G) (cy : Nat → ClassId) (S : PS) (sz : Nat) (mo : Nat) (a1 : Int32) (a2 : Int32) (a3 : Int32) (a4 : Int32) (a5 : Int32) (hF : FM S mo) : Ci l yX12_copy wsX12_copy ({ frames := 5, cells := 0, slots := 0, locals := 200 }) G cy S sz [.ref mo, .int (a1), .int (a2), .int (a3), .int (a4), .int (a5)] (fun (r : Int32) (S9 : PS) => r = 0) := by
  refine ent_m (cc := cX12_copy) (maxL := 8) (ret := (some .boolean)) (by decide) rfl (Nat.le_of_ble_eq_true rfl) ?_
  intro p e s m below meth c ls X hr hlocks hin hw hl hsz
  subst hsz
  have X : Cx p c cX12_copy 8 s [.ref mo, .int (a1), .int (a2), .int (a3), .int (a4), .int (a5)].toArray wsX12_copy RX12 m G cy (AS S s.heap.size) := X
  have hl : lv_has ls 8 [(0, .ref mo), (1, .int (a1)), (2, .int (a2)), (3, .int (a3)), (4, .int (a4)), (5, .int (a5))] := hl
  obtain ⟨hat_mo, hci, ci_1229, hars, hz53, hz39⟩ := hF
  obtain ⟨q1253, rf_q1253, hat_q1253, ln_q1253⟩ := hars (1253, 15, 16) (by decide +kernel)
  have rf_q1253 : pR S 1253 mo = some q1253 := rf_q1253
  have hat_q1253 : At S q1253 15 := hat_q1253
  have ln_q1253 : pN S q1253 = 16 := ln_q1253
  have hz := hz53 _ rf_q1253
  refine lv_aload_n X.1 X.2.1 dX12_copy_0 rfl (lv_at hl 0 rfl) ?_
  refine lv_iconst (v := 0) X.1 X.2.1 dX12_copy_1 (by decide) ?_
  refine r_putI (v := 0) X hw hat_mo 0 1200 tyX12 (by decide) rfl inn_X12_copy_12 tyX12_ok nmX12 (by decide) (X.2.2.2.1 (.fieldLink RX12 161 "SilkMillModel" "thrown" "I") (by decide +kernel)) rfl (Or.inl rfl) rfl rfl (Nat.le_of_ble_eq_true rfl) (st_1200 _ _) dX12_copy_2 (fun H locs hw => ?_)
  generalize eS_1 : sI S 1200 mo 0 = S_1 at hw
  have hat_mo : At S_1 mo 12 := by rw [← eS_1]; exact At_sI hat_mo
  have hat_q1253 : At S_1 q1253 15 := by rw [← eS_1]; exact At_sI hat_q1253
  have rf_q1253 : pR S_1 1253 mo = some q1253 := by rw [← eS_1, pR_sI]; exact rf_q1253
  have ln_q1253 : pN S_1 q1253 = 16 := by rw [← eS_1, pN_sI]; exact ln_q1253
  have hz : ∀ j, pA S_1 q1253 j = 0 := by rw [← eS_1, pA_sI]; exact hz
  have hc_2 : pI S_1 1200 mo = 0 := by rw [← eS_1]; exact pI_sI_same
  refine lv_aload_n X.1 X.2.1 dX12_copy_5 rfl (lv_at hl 0 rfl) ?_
  refine lv_iload_n X.1 X.2.1 dX12_copy_6 rfl (lv_at hl 1 rfl) ?_
  refine k_i (rm := { frames := 3, cells := 0, slots := 0, locals := 120 }) (av := [.ref mo, .int (a1)]) X hw (va_runV (As := [.int (a1)]) (rest := []) (cfix X) (c_X12_isWord l G cy S_1 _ mo (a1) hat_mo q1253 rf_q1253 hat_q1253 ln_q1253 hz) (cwV 1 X.2.2.2.1 gX12_copy_X12_isWord rfl rfl rfl (by decide +kernel) ⟨Nat.le_of_ble_eq_true rfl, Nat.le_of_ble_eq_true rfl⟩) (pre_V X hw _ hat_mo (by decide) rfl) rfl rfl hl.1 rfl (lv_room (Nat.le_of_ble_eq_true rfl)) dX12_copy_7 ⟨Nat.le_of_ble_eq_true rfl, Nat.le_of_ble_eq_true rfl⟩) 0 0 (Nat.le_of_ble_eq_true rfl) (Nat.le_of_ble_eq_true rfl) (fun rr_7 S2 H locs hp hw hfr hnw => ?_)
  obtain ⟨e2_7, er_7⟩ := hp
  subst e2_7
  subst er_7
  refine lv_if_eq (tgt := 35) X.1 X.2.1 dX12_copy_10 (by decide) (fun c_10 => ?_) (fun c_10 => absurd c_10 (by decide))
  refine lv_iconst (v := 0) X.1 X.2.1 dX12_copy_35 (by decide) ?_
  exact ret_z X hw hr hlocks (Nat.le_of_ble_eq_true rfl) (Nat.le_of_ble_eq_true rfl) (by decide) rfl dX12_copy_36
end
section
theorem dX12_weight_0 : decode cX12_weight 0 = .ok (.iconst 0, 1) := by decide +kernel
theorem dX12_weight_1 : decode cX12_weight 1 = .ok (.istore_n 3, 1) := by decide +kernel
theorem dX12_weight_2 : decode cX12_weight 2 = .ok (.iload_n 1, 1) := by decide +kernel
theorem dX12_weight_3 : decode cX12_weight 3 = .ok (.istore 4, 2) := by decide +kernel
theorem dX12_weight_5 : decode cX12_weight 5 = .ok (.iload 4, 2) := by decide +kernel
theorem dX12_weight_7 : decode cX12_weight 7 = .ok (.iload_n 1, 1) := by decide +kernel
theorem dX12_weight_8 : decode cX12_weight 8 = .ok (.iload_n 2, 1) := by decide +kernel
theorem dX12_weight_9 : decode cX12_weight 9 = .ok (.iadd, 1) := by decide +kernel
theorem dX12_weight_10 : decode cX12_weight 10 = .ok (.if_icmp .ge 18, 3) := by decide +kernel
theorem dX12_weight_28 : decode cX12_weight 28 = .ok (.iload_n 3, 1) := by decide +kernel
theorem dX12_weight_29 : decode cX12_weight 29 = .ok (.ireturn, 1) := by decide +kernel
theorem dX12_mix_0 : decode cX12_mix 0 = .ok (.aload_n 0, 1) := by decide +kernel
theorem dX12_mix_1 : decode cX12_mix 1 = .ok (.iconst 0, 1) := by decide +kernel
theorem dX12_mix_2 : decode cX12_mix 2 = .ok (.putfield 161, 3) := by decide +kernel
theorem dX12_mix_5 : decode cX12_mix 5 = .ok (.iconst 0, 1) := by decide +kernel
theorem dX12_mix_6 : decode cX12_mix 6 = .ok (.istore 5, 2) := by decide +kernel
theorem dX12_mix_8 : decode cX12_mix 8 = .ok (.iconst 0, 1) := by decide +kernel
theorem dX12_mix_9 : decode cX12_mix 9 = .ok (.istore 6, 2) := by decide +kernel
theorem dX12_mix_11 : decode cX12_mix 11 = .ok (.iload 6, 2) := by decide +kernel
theorem dX12_mix_13 : decode cX12_mix 13 = .ok (.aload_n 0, 1) := by decide +kernel
theorem dX12_mix_14 : decode cX12_mix 14 = .ok (.getfield 290, 3) := by decide +kernel
theorem dX12_mix_17 : decode cX12_mix 17 = .ok (.if_icmp .ge 93, 3) := by decide +kernel
theorem dX12_mix_110 : decode cX12_mix 110 = .ok (.iconst 0, 1) := by decide +kernel
theorem dX12_mix_111 : decode cX12_mix 111 = .ok (.istore 6, 2) := by decide +kernel
theorem dX12_mix_113 : decode cX12_mix 113 = .ok (.iconst (-1), 1) := by decide +kernel
theorem dX12_mix_114 : decode cX12_mix 114 = .ok (.istore 7, 2) := by decide +kernel
theorem dX12_mix_116 : decode cX12_mix 116 = .ok (.iconst 1, 1) := by decide +kernel
theorem dX12_mix_117 : decode cX12_mix 117 = .ok (.istore 8, 2) := by decide +kernel
theorem dX12_mix_119 : decode cX12_mix 119 = .ok (.iload 8, 2) := by decide +kernel
theorem dX12_mix_121 : decode cX12_mix 121 = .ok (.iconst 1, 1) := by decide +kernel
theorem dX12_mix_122 : decode cX12_mix 122 = .ok (.iload 5, 2) := by decide +kernel
theorem dX12_mix_124 : decode cX12_mix 124 = .ok (.ishl, 1) := by decide +kernel
theorem dX12_mix_125 : decode cX12_mix 125 = .ok (.if_icmp .ge 139, 3) := by decide +kernel
theorem dX12_mix_264 : decode cX12_mix 264 = .ok (.iload 7, 2) := by decide +kernel
theorem dX12_mix_266 : decode cX12_mix 266 = .ok (.iconst (-1), 1) := by decide +kernel
theorem dX12_mix_267 : decode cX12_mix 267 = .ok (.if_icmp .ne 5, 3) := by decide +kernel
theorem dX12_mix_270 : decode cX12_mix 270 = .ok (.iconst (-1), 1) := by decide +kernel
theorem dX12_mix_271 : decode cX12_mix 271 = .ok (.ireturn, 1) := by decide +kernel
theorem inn_X12_mix_12 : ∀ w ∈ u_ws RX12 TX12 66, w ∈ wsX12_mix := fun w h => List.mem_cons_of_mem _ (List.mem_append_right _ h)
end
section
set_option maxHeartbeats 4000000 in
set_option maxRecDepth 100000 in
theorem c_X12_mix (l : Launch) (G : va_G) (cy : Nat → ClassId) (S : PS) (sz : Nat) (mo : Nat) (a1 : Int32) (a2 : Int32) (a3 : Int32) (a4 : Int32) (hF : FM S mo) : Ci l yX12_mix wsX12_mix ({ frames := 5, cells := 0, slots := 0, locals := 200 }) G cy S sz [.ref mo, .int (a1), .int (a2), .int (a3), .int (a4)] (fun (r : Int32) (S9 : PS) => r = -1) := by
  refine ent_m (cc := cX12_mix) (maxL := 13) (ret := (some .int)) (by decide) rfl (Nat.le_of_ble_eq_true rfl) ?_
  intro p e s m below meth c ls X hr hlocks hin hw hl hsz
  subst hsz
  have X : Cx p c cX12_mix 13 s [.ref mo, .int (a1), .int (a2), .int (a3), .int (a4)].toArray wsX12_mix RX12 m G cy (AS S s.heap.size) := X
  have hl : lv_has ls 13 [(0, .ref mo), (1, .int (a1)), (2, .int (a2)), (3, .int (a3)), (4, .int (a4))] := hl
  obtain ⟨hat_mo, hci, ci_1229, hars, hz53, hz39⟩ := hF
  have ci_1238 := hci 1238 (by decide)
  refine lv_aload_n X.1 X.2.1 dX12_mix_0 rfl (lv_at hl 0 rfl) ?_
  refine lv_iconst (v := 0) X.1 X.2.1 dX12_mix_1 (by decide) ?_
  refine r_putI (v := 0) X hw hat_mo 0 1200 tyX12 (by decide) rfl inn_X12_mix_12 tyX12_ok nmX12 (by decide) (X.2.2.2.1 (.fieldLink RX12 161 "SilkMillModel" "thrown" "I") (by decide +kernel)) rfl (Or.inl rfl) rfl rfl (Nat.le_of_ble_eq_true rfl) (st_1200 _ _) dX12_mix_2 (fun H locs hw => ?_)
  generalize eS_1 : sI S 1200 mo 0 = S_1 at hw
  have hat_mo : At S_1 mo 12 := by rw [← eS_1]; exact At_sI hat_mo
  have ci_1238 : pI S_1 1238 mo = 0 := by rw [← eS_1]; exact (pI_sI_nf (by decide)).trans ci_1238
  have hc_2 : pI S_1 1200 mo = 0 := by rw [← eS_1]; exact pI_sI_same
  refine lv_iconst (v := 0) X.1 X.2.1 dX12_mix_5 (by decide) ?_
  refine lv_istore (lv' := [(5, .int 0), (0, .ref mo), (1, .int (a1)), (2, .int (a2)), (3, .int (a3)), (4, .int (a4))]) X.1 X.2.1 dX12_mix_6 hl (by decide) rfl (fun ls hl => ?_)
  refine lv_iconst (v := 0) X.1 X.2.1 dX12_mix_8 (by decide) ?_
  refine lv_istore (lv' := [(6, .int 0), (5, .int 0), (0, .ref mo), (1, .int (a1)), (2, .int (a2)), (3, .int (a3)), (4, .int (a4))]) X.1 X.2.1 dX12_mix_9 hl (by decide) rfl (fun ls hl => ?_)
  refine lv_iload X.1 X.2.1 dX12_mix_11 (lv_at hl 0 rfl) ?_
  refine lv_aload_n X.1 X.2.1 dX12_mix_13 rfl (lv_at hl 2 rfl) ?_
  refine r_get (v := .int 0) X hw hat_mo 38 (by decide) rfl inn_X12_mix_12 (by decide) (X.2.2.2.1 (.fieldLink RX12 290 "SilkMillModel" "skeins" "I") (by decide +kernel)) rfl ((gv_1238 _ _).trans (congrArg (fun z => some (Value.int z)) ci_1238)) dX12_mix_14 ?_
  refine lv_icmp_ge (tgt := 110) X.1 X.2.1 dX12_mix_17 (by decide) (fun c_17 => ?_) (fun c_17 => absurd c_17 (by decide))
  refine lv_iconst (v := 0) X.1 X.2.1 dX12_mix_110 (by decide) ?_
  refine lv_istore (lv' := [(6, .int 0), (5, .int 0), (0, .ref mo), (1, .int (a1)), (2, .int (a2)), (3, .int (a3)), (4, .int (a4))]) X.1 X.2.1 dX12_mix_111 hl (by decide) rfl (fun ls hl => ?_)
  refine lv_iconst (v := (-1)) X.1 X.2.1 dX12_mix_113 (by decide) ?_
  refine lv_istore (lv' := [(7, .int (-1)), (6, .int 0), (5, .int 0), (0, .ref mo), (1, .int (a1)), (2, .int (a2)), (3, .int (a3)), (4, .int (a4))]) X.1 X.2.1 dX12_mix_114 hl (by decide) rfl (fun ls hl => ?_)
  refine lv_iconst (v := 1) X.1 X.2.1 dX12_mix_116 (by decide) ?_
  refine lv_istore (lv' := [(8, .int 1), (7, .int (-1)), (6, .int 0), (5, .int 0), (0, .ref mo), (1, .int (a1)), (2, .int (a2)), (3, .int (a3)), (4, .int (a4))]) X.1 X.2.1 dX12_mix_117 hl (by decide) rfl (fun ls hl => ?_)
  refine lv_iload X.1 X.2.1 dX12_mix_119 (lv_at hl 0 rfl) ?_
  refine lv_iconst (v := 1) X.1 X.2.1 dX12_mix_121 (by decide) ?_
  refine lv_iload X.1 X.2.1 dX12_mix_122 (lv_at hl 3 rfl) ?_
  refine lv_ishl X.1 X.2.1 dX12_mix_124 ?_
  refine lv_topi (fun v_3 ev_3 => ?_)
  obtain rfl : v_3 = 1 := ev_3.trans (by decide +kernel)
  refine lv_icmp_ge (tgt := 264) X.1 X.2.1 dX12_mix_125 (by decide) (fun c_125 => ?_) (fun c_125 => absurd c_125 (by decide))
  refine lv_iload X.1 X.2.1 dX12_mix_264 (lv_at hl 1 rfl) ?_
  refine lv_iconst (v := (-1)) X.1 X.2.1 dX12_mix_266 (by decide) ?_
  refine lv_icmp_ne (tgt := 272) X.1 X.2.1 dX12_mix_267 (by decide) (fun c_267 => absurd c_267 (by decide)) (fun c_267 => ?_)
  refine lv_iconst (v := (-1)) X.1 X.2.1 dX12_mix_270 (by decide) ?_
  exact ret_i X hw hr hlocks (Nat.le_of_ble_eq_true rfl) (Nat.le_of_ble_eq_true rfl) rfl dX12_mix_271
set_option maxHeartbeats 4000000 in
set_option maxRecDepth 100000 in
theorem c_X12_weight (l : Launch) (G : va_G) (cy : Nat → ClassId) (S : PS) (sz : Nat) (mo : Nat) (hat_mo : At S mo 12) : Ci l yX12_weight wsX12_weight ({ frames := 3, cells := 0, slots := 0, locals := 120 }) G cy S sz [.ref mo, .int 0, .int 0] (fun (r : Int32) (S9 : PS) => S = S9 ∧ r = 0) := by
  refine ent_m (cc := cX12_weight) (maxL := 5) (ret := (some .int)) (by decide) rfl (Nat.le_of_ble_eq_true rfl) ?_
  intro p e s m below meth c ls X hr hlocks hin hw hl hsz
  subst hsz
  have X : Cx p c cX12_weight 5 s [.ref mo, .int 0, .int 0].toArray wsX12_weight RX12 m G cy (AS S s.heap.size) := X
  have hl : lv_has ls 5 [(0, .ref mo), (1, .int 0), (2, .int 0)] := hl
  refine lv_iconst (v := 0) X.1 X.2.1 dX12_weight_0 (by decide) ?_
  refine lv_istore_n (lv' := [(3, .int 0), (0, .ref mo), (1, .int 0), (2, .int 0)]) X.1 X.2.1 dX12_weight_1 rfl hl (by decide) rfl (fun ls hl => ?_)
  refine lv_iload_n X.1 X.2.1 dX12_weight_2 rfl (lv_at hl 2 rfl) ?_
  refine lv_istore (lv' := [(4, .int 0), (3, .int 0), (0, .ref mo), (1, .int 0), (2, .int 0)]) X.1 X.2.1 dX12_weight_3 hl (by decide) rfl (fun ls hl => ?_)
  refine lv_iload X.1 X.2.1 dX12_weight_5 (lv_at hl 0 rfl) ?_
  refine lv_iload_n X.1 X.2.1 dX12_weight_7 rfl (lv_at hl 3 rfl) ?_
  refine lv_iload_n X.1 X.2.1 dX12_weight_8 rfl (lv_at hl 4 rfl) ?_
  refine lv_iadd X.1 X.2.1 dX12_weight_9 ?_
  refine lv_topi (fun v_1 ev_1 => ?_)
  obtain rfl : v_1 = 0 := ev_1.trans (by decide +kernel)
  refine lv_icmp_ge (tgt := 28) X.1 X.2.1 dX12_weight_10 (by decide) (fun c_10 => ?_) (fun c_10 => absurd c_10 (by decide))
  refine lv_iload_n X.1 X.2.1 dX12_weight_28 rfl (lv_at hl 1 rfl) ?_
  exact ret_i X hw hr hlocks (Nat.le_of_ble_eq_true rfl) (Nat.le_of_ble_eq_true rfl) ⟨rfl, rfl⟩ dX12_weight_29
end
section
set_option maxRecDepth 20000 in
theorem ggX12_count_X12_weight : GoodIn wsX12_count wsX12_weight := goodIn_r _ [42, 43, 44, 45, 18, 46, 47, 48, 20, 21, 22, 23, 24, 25, 26, 27, 28, 29, 30, 31, 32, 33, 34, 35, 36, 37, 38, 53, 54, 55, 56, 57, 58, 59, 60, 61, 62, 63, 64, 65, 66, 67, 68, 69, 70, 71, 72, 73, 74, 75, 76, 77, 78, 79, 80, 81, 82, 83, 84, 85, 86, 87, 88, 89, 90, 91, 92, 93, 94, 95, 96, 97, 98, 99, 100, 101, 102, 103, 104, 105, 106, 107, 108, 109, 110, 111, 112, 113, 114, 115, 116, 117, 118] (by decide +kernel) (by decide +kernel)
set_option maxRecDepth 20000 in
theorem gX12_count_X12_weight : GoodIn wsX12_count (wsV RX12 299 RX12 yX12_weight wsX12_weight) := goodIn_app (goodIn_of _ (by decide +kernel)) ggX12_count_X12_weight
theorem dX12_count_0 : decode cX12_count 0 = .ok (.aload_n 0, 1) := by decide +kernel
theorem dX12_count_1 : decode cX12_count 1 = .ok (.iconst 0, 1) := by decide +kernel
theorem dX12_count_2 : decode cX12_count 2 = .ok (.putfield 161, 3) := by decide +kernel
theorem dX12_count_5 : decode cX12_count 5 = .ok (.iconst 0, 1) := by decide +kernel
theorem dX12_count_6 : decode cX12_count 6 = .ok (.istore_n 2, 1) := by decide +kernel
theorem dX12_count_7 : decode cX12_count 7 = .ok (.iload_n 1, 1) := by decide +kernel
theorem dX12_count_8 : decode cX12_count 8 = .ok (.tableswitch 302 0 11 #[64, 69, 74, 79, 84, 89, 94, 146, 161, 197, 202, 269], 64) := by decide +kernel
theorem dX12_count_72 : decode cX12_count 72 = .ok (.aload_n 0, 1) := by decide +kernel
theorem dX12_count_73 : decode cX12_count 73 = .ok (.getfield 165, 3) := by decide +kernel
theorem dX12_count_76 : decode cX12_count 76 = .ok (.ireturn, 1) := by decide +kernel
theorem dX12_count_77 : decode cX12_count 77 = .ok (.aload_n 0, 1) := by decide +kernel
theorem dX12_count_78 : decode cX12_count 78 = .ok (.getfield 197, 3) := by decide +kernel
theorem dX12_count_81 : decode cX12_count 81 = .ok (.ireturn, 1) := by decide +kernel
theorem dX12_count_82 : decode cX12_count 82 = .ok (.aload_n 0, 1) := by decide +kernel
theorem dX12_count_83 : decode cX12_count 83 = .ok (.getfield 290, 3) := by decide +kernel
theorem dX12_count_86 : decode cX12_count 86 = .ok (.ireturn, 1) := by decide +kernel
theorem dX12_count_87 : decode cX12_count 87 = .ok (.aload_n 0, 1) := by decide +kernel
theorem dX12_count_88 : decode cX12_count 88 = .ok (.getfield 302, 3) := by decide +kernel
theorem dX12_count_91 : decode cX12_count 91 = .ok (.ireturn, 1) := by decide +kernel
theorem dX12_count_92 : decode cX12_count 92 = .ok (.aload_n 0, 1) := by decide +kernel
theorem dX12_count_93 : decode cX12_count 93 = .ok (.getfield 211, 3) := by decide +kernel
theorem dX12_count_96 : decode cX12_count 96 = .ok (.ireturn, 1) := by decide +kernel
theorem dX12_count_97 : decode cX12_count 97 = .ok (.aload_n 0, 1) := by decide +kernel
theorem dX12_count_98 : decode cX12_count 98 = .ok (.getfield 403, 3) := by decide +kernel
theorem dX12_count_101 : decode cX12_count 101 = .ok (.ireturn, 1) := by decide +kernel
theorem dX12_count_102 : decode cX12_count 102 = .ok (.iconst 0, 1) := by decide +kernel
theorem dX12_count_103 : decode cX12_count 103 = .ok (.istore_n 3, 1) := by decide +kernel
theorem dX12_count_104 : decode cX12_count 104 = .ok (.iload_n 3, 1) := by decide +kernel
theorem dX12_count_105 : decode cX12_count 105 = .ok (.bipush 60, 2) := by decide +kernel
theorem dX12_count_107 : decode cX12_count 107 = .ok (.aload_n 0, 1) := by decide +kernel
theorem dX12_count_108 : decode cX12_count 108 = .ok (.getfield 165, 3) := by decide +kernel
theorem dX12_count_111 : decode cX12_count 111 = .ok (.imul, 1) := by decide +kernel
theorem dX12_count_112 : decode cX12_count 112 = .ok (.if_icmp .ge 40, 3) := by decide +kernel
theorem dX12_count_152 : decode cX12_count 152 = .ok (.iload_n 2, 1) := by decide +kernel
theorem dX12_count_153 : decode cX12_count 153 = .ok (.ireturn, 1) := by decide +kernel
theorem dX12_count_154 : decode cX12_count 154 = .ok (.aload_n 0, 1) := by decide +kernel
theorem dX12_count_155 : decode cX12_count 155 = .ok (.iconst 0, 1) := by decide +kernel
theorem dX12_count_156 : decode cX12_count 156 = .ok (.aload_n 0, 1) := by decide +kernel
theorem dX12_count_157 : decode cX12_count 157 = .ok (.getfield 100, 3) := by decide +kernel
theorem dX12_count_160 : decode cX12_count 160 = .ok (.aload_n 0, 1) := by decide +kernel
theorem dX12_count_161 : decode cX12_count 161 = .ok (.getfield 290, 3) := by decide +kernel
theorem dX12_count_164 : decode cX12_count 164 = .ok (.iaload, 1) := by decide +kernel
theorem dX12_count_165 : decode cX12_count 165 = .ok (.invokevirtual 299, 3) := by decide +kernel
theorem dX12_count_168 : decode cX12_count 168 = .ok (.ireturn, 1) := by decide +kernel
theorem dX12_count_169 : decode cX12_count 169 = .ok (.iconst 0, 1) := by decide +kernel
theorem dX12_count_170 : decode cX12_count 170 = .ok (.istore_n 3, 1) := by decide +kernel
theorem dX12_count_171 : decode cX12_count 171 = .ok (.iload_n 3, 1) := by decide +kernel
theorem dX12_count_172 : decode cX12_count 172 = .ok (.aload_n 0, 1) := by decide +kernel
theorem dX12_count_173 : decode cX12_count 173 = .ok (.getfield 197, 3) := by decide +kernel
theorem dX12_count_176 : decode cX12_count 176 = .ok (.if_icmp .ge 27, 3) := by decide +kernel
theorem dX12_count_203 : decode cX12_count 203 = .ok (.iload_n 2, 1) := by decide +kernel
theorem dX12_count_204 : decode cX12_count 204 = .ok (.ireturn, 1) := by decide +kernel
theorem dX12_count_205 : decode cX12_count 205 = .ok (.aload_n 0, 1) := by decide +kernel
theorem dX12_count_206 : decode cX12_count 206 = .ok (.getfield 293, 3) := by decide +kernel
theorem dX12_count_209 : decode cX12_count 209 = .ok (.ireturn, 1) := by decide +kernel
theorem dX12_count_210 : decode cX12_count 210 = .ok (.iconst 0, 1) := by decide +kernel
theorem dX12_count_211 : decode cX12_count 211 = .ok (.istore_n 3, 1) := by decide +kernel
theorem dX12_count_212 : decode cX12_count 212 = .ok (.iload_n 3, 1) := by decide +kernel
theorem dX12_count_213 : decode cX12_count 213 = .ok (.bipush 60, 2) := by decide +kernel
theorem dX12_count_215 : decode cX12_count 215 = .ok (.aload_n 0, 1) := by decide +kernel
theorem dX12_count_216 : decode cX12_count 216 = .ok (.getfield 165, 3) := by decide +kernel
theorem dX12_count_219 : decode cX12_count 219 = .ok (.imul, 1) := by decide +kernel
theorem dX12_count_220 : decode cX12_count 220 = .ok (.if_icmp .ge 55, 3) := by decide +kernel
theorem dX12_count_275 : decode cX12_count 275 = .ok (.iload_n 2, 1) := by decide +kernel
theorem dX12_count_276 : decode cX12_count 276 = .ok (.ireturn, 1) := by decide +kernel
theorem dX12_count_277 : decode cX12_count 277 = .ok (.iconst 0, 1) := by decide +kernel
theorem dX12_count_278 : decode cX12_count 278 = .ok (.istore_n 3, 1) := by decide +kernel
theorem dX12_count_279 : decode cX12_count 279 = .ok (.iload_n 3, 1) := by decide +kernel
theorem dX12_count_280 : decode cX12_count 280 = .ok (.bipush 16, 2) := by decide +kernel
theorem dX12_count_282 : decode cX12_count 282 = .ok (.if_icmp .ge 26, 3) := by decide +kernel
theorem dX12_count_285 : decode cX12_count 285 = .ok (.iload_n 2, 1) := by decide +kernel
theorem dX12_count_286 : decode cX12_count 286 = .ok (.aload_n 0, 1) := by decide +kernel
theorem dX12_count_287 : decode cX12_count 287 = .ok (.getfield 125, 3) := by decide +kernel
theorem dX12_count_290 : decode cX12_count 290 = .ok (.iload_n 3, 1) := by decide +kernel
theorem dX12_count_291 : decode cX12_count 291 = .ok (.baload, 1) := by decide +kernel
theorem dX12_count_292 : decode cX12_count 292 = .ok (.ifCond .eq 7, 3) := by decide +kernel
theorem dX12_count_299 : decode cX12_count 299 = .ok (.iconst 0, 1) := by decide +kernel
theorem dX12_count_300 : decode cX12_count 300 = .ok (.iadd, 1) := by decide +kernel
theorem dX12_count_301 : decode cX12_count 301 = .ok (.istore_n 2, 1) := by decide +kernel
theorem dX12_count_302 : decode cX12_count 302 = .ok (.iinc 3 1, 3) := by decide +kernel
theorem dX12_count_305 : decode cX12_count 305 = .ok (.goto (-26), 3) := by decide +kernel
theorem dX12_count_308 : decode cX12_count 308 = .ok (.iload_n 2, 1) := by decide +kernel
theorem dX12_count_309 : decode cX12_count 309 = .ok (.ireturn, 1) := by decide +kernel
theorem dX12_count_310 : decode cX12_count 310 = .ok (.iconst (-1), 1) := by decide +kernel
theorem dX12_count_311 : decode cX12_count 311 = .ok (.ireturn, 1) := by decide +kernel
theorem inn_X12_count_12 : ∀ w ∈ u_ws RX12 TX12 66, w ∈ wsX12_count := fun w h => List.mem_cons_of_mem _ (List.mem_append_right _ h)
end
section
set_option maxHeartbeats 4000000 in
set_option maxRecDepth 100000 in
theorem c_X12_count (l : Launch) (G : va_G) (cy : Nat → ClassId) (S : PS) (sz : Nat) (mo : Nat) (a1 : Int32) (hF : FM S mo) : Ci l yX12_count wsX12_count ({ frames := 5, cells := 0, slots := 0, locals := 200 }) G cy S sz [.ref mo, .int (a1)] (fun (r : Int32) (S9 : PS) => r = cntV a1) := by
  refine ent_m (cc := cX12_count) (maxL := 4) (ret := (some .int)) (by decide) rfl (Nat.le_of_ble_eq_true rfl) ?_
  intro p e s m below meth c ls X hr hlocks hin hw hl hsz
  subst hsz
  have X : Cx p c cX12_count 4 s [.ref mo, .int (a1)].toArray wsX12_count RX12 m G cy (AS S s.heap.size) := X
  have hl : lv_has ls 4 [(0, .ref mo), (1, .int (a1))] := hl
  obtain ⟨hat_mo, hci, ci_1229, hars, hz53, hz39⟩ := hF
  have ci_1201 := hci 1201 (by decide)
  have ci_1211 := hci 1211 (by decide)
  have ci_1228 := hci 1228 (by decide)
  have ci_1238 := hci 1238 (by decide)
  have ci_1245 := hci 1245 (by decide)
  have ci_1246 := hci 1246 (by decide)
  have ci_1262 := hci 1262 (by decide)
  obtain ⟨q1253, rf_q1253, hat_q1253, ln_q1253⟩ := hars (1253, 15, 16) (by decide +kernel)
  have rf_q1253 : pR S 1253 mo = some q1253 := rf_q1253
  have hat_q1253 : At S q1253 15 := hat_q1253
  have ln_q1253 : pN S q1253 = 16 := ln_q1253
  obtain ⟨q1239, rf_q1239, hat_q1239, ln_q1239⟩ := hars (1239, 14, 41) (by decide +kernel)
  have rf_q1239 : pR S 1239 mo = some q1239 := rf_q1239
  have hat_q1239 : At S q1239 14 := hat_q1239
  have ln_q1239 : pN S q1239 = 41 := ln_q1239
  have hz := hz53 _ rf_q1253
  have hz9 := hz39 _ rf_q1239
  refine lv_aload_n X.1 X.2.1 dX12_count_0 rfl (lv_at hl 0 rfl) ?_
  refine lv_iconst (v := 0) X.1 X.2.1 dX12_count_1 (by decide) ?_
  refine r_putI (v := 0) X hw hat_mo 0 1200 tyX12 (by decide) rfl inn_X12_count_12 tyX12_ok nmX12 (by decide) (X.2.2.2.1 (.fieldLink RX12 161 "SilkMillModel" "thrown" "I") (by decide +kernel)) rfl (Or.inl rfl) rfl rfl (Nat.le_of_ble_eq_true rfl) (st_1200 _ _) dX12_count_2 (fun H locs hw => ?_)
  generalize eS_1 : sI S 1200 mo 0 = S_1 at hw
  have hat_mo : At S_1 mo 12 := by rw [← eS_1]; exact At_sI hat_mo
  have hat_q1253 : At S_1 q1253 15 := by rw [← eS_1]; exact At_sI hat_q1253
  have hat_q1239 : At S_1 q1239 14 := by rw [← eS_1]; exact At_sI hat_q1239
  have rf_q1253 : pR S_1 1253 mo = some q1253 := by rw [← eS_1, pR_sI]; exact rf_q1253
  have rf_q1239 : pR S_1 1239 mo = some q1239 := by rw [← eS_1, pR_sI]; exact rf_q1239
  have ci_1201 : pI S_1 1201 mo = 0 := by rw [← eS_1]; exact (pI_sI_nf (by decide)).trans ci_1201
  have ci_1211 : pI S_1 1211 mo = 0 := by rw [← eS_1]; exact (pI_sI_nf (by decide)).trans ci_1211
  have ci_1228 : pI S_1 1228 mo = 0 := by rw [← eS_1]; exact (pI_sI_nf (by decide)).trans ci_1228
  have ci_1238 : pI S_1 1238 mo = 0 := by rw [← eS_1]; exact (pI_sI_nf (by decide)).trans ci_1238
  have ci_1245 : pI S_1 1245 mo = 0 := by rw [← eS_1]; exact (pI_sI_nf (by decide)).trans ci_1245
  have ci_1246 : pI S_1 1246 mo = 0 := by rw [← eS_1]; exact (pI_sI_nf (by decide)).trans ci_1246
  have ci_1262 : pI S_1 1262 mo = 0 := by rw [← eS_1]; exact (pI_sI_nf (by decide)).trans ci_1262
  have ln_q1253 : pN S_1 q1253 = 16 := by rw [← eS_1, pN_sI]; exact ln_q1253
  have ln_q1239 : pN S_1 q1239 = 41 := by rw [← eS_1, pN_sI]; exact ln_q1239
  have hz : ∀ j, pA S_1 q1253 j = 0 := by rw [← eS_1, pA_sI]; exact hz
  have hz9 : ∀ j, pA S_1 q1239 j = 0 := by rw [← eS_1, pA_sI]; exact hz9
  have hc_2 : pI S_1 1200 mo = 0 := by rw [← eS_1]; exact pI_sI_same
  refine lv_iconst (v := 0) X.1 X.2.1 dX12_count_5 (by decide) ?_
  refine lv_istore_n (lv' := [(2, .int 0), (0, .ref mo), (1, .int (a1))]) X.1 X.2.1 dX12_count_6 rfl hl (by decide) rfl (fun ls hl => ?_)
  refine lv_iload_n X.1 X.2.1 dX12_count_7 rfl (lv_at hl 2 rfl) ?_
  by_cases w_8 : (a1).toInt < 0 ∨ 11 < (a1).toInt
  · refine lv_tableOut (tgt := 310) X.1 X.2.1 dX12_count_8 w_8 (by decide) ?_
    refine lv_iconst (v := (-1)) X.1 X.2.1 dX12_count_310 (by decide) ?_
    exact ret_i X hw hr hlocks (Nat.le_of_ble_eq_true rfl) (Nat.le_of_ble_eq_true rfl) (by unfold cntV; first | rw [if_pos (by omega)] | rw [if_neg (by omega)]) dX12_count_311
  have w2_8 : (a1).toInt = 0 ∨ (a1).toInt = 1 ∨ (a1).toInt = 2 ∨ (a1).toInt = 3 ∨ (a1).toInt = 4 ∨ (a1).toInt = 5 ∨ (a1).toInt = 6 ∨ (a1).toInt = 7 ∨ (a1).toInt = 8 ∨ (a1).toInt = 9 ∨ (a1).toInt = 10 ∨ (a1).toInt = 11 := by omega
  rcases w2_8 with w3_8 | w3_8 | w3_8 | w3_8 | w3_8 | w3_8 | w3_8 | w3_8 | w3_8 | w3_8 | w3_8 | w3_8
  · refine lv_tableIn (tgt := 72) X.1 X.2.1 dX12_count_8 (by omega) (by omega) (by rw [w3_8]; rfl) (by decide) ?_
    refine lv_aload_n X.1 X.2.1 dX12_count_72 rfl (lv_at hl 1 rfl) ?_
    refine r_get (v := .int 0) X hw hat_mo 1 (by decide) rfl inn_X12_count_12 (by decide) (X.2.2.2.1 (.fieldLink RX12 165 "SilkMillModel" "lots" "I") (by decide +kernel)) rfl ((gv_1201 _ _).trans (congrArg (fun z => some (Value.int z)) ci_1201)) dX12_count_73 ?_
    exact ret_i X hw hr hlocks (Nat.le_of_ble_eq_true rfl) (Nat.le_of_ble_eq_true rfl) (by unfold cntV; first | rw [if_pos (by omega)] | rw [if_neg (by omega)]) dX12_count_76
  · refine lv_tableIn (tgt := 77) X.1 X.2.1 dX12_count_8 (by omega) (by omega) (by rw [w3_8]; rfl) (by decide) ?_
    refine lv_aload_n X.1 X.2.1 dX12_count_77 rfl (lv_at hl 1 rfl) ?_
    refine r_get (v := .int 0) X hw hat_mo 11 (by decide) rfl inn_X12_count_12 (by decide) (X.2.2.2.1 (.fieldLink RX12 197 "SilkMillModel" "pots" "I") (by decide +kernel)) rfl ((gv_1211 _ _).trans (congrArg (fun z => some (Value.int z)) ci_1211)) dX12_count_78 ?_
    exact ret_i X hw hr hlocks (Nat.le_of_ble_eq_true rfl) (Nat.le_of_ble_eq_true rfl) (by unfold cntV; first | rw [if_pos (by omega)] | rw [if_neg (by omega)]) dX12_count_81
  · refine lv_tableIn (tgt := 82) X.1 X.2.1 dX12_count_8 (by omega) (by omega) (by rw [w3_8]; rfl) (by decide) ?_
    refine lv_aload_n X.1 X.2.1 dX12_count_82 rfl (lv_at hl 1 rfl) ?_
    refine r_get (v := .int 0) X hw hat_mo 38 (by decide) rfl inn_X12_count_12 (by decide) (X.2.2.2.1 (.fieldLink RX12 290 "SilkMillModel" "skeins" "I") (by decide +kernel)) rfl ((gv_1238 _ _).trans (congrArg (fun z => some (Value.int z)) ci_1238)) dX12_count_83 ?_
    exact ret_i X hw hr hlocks (Nat.le_of_ble_eq_true rfl) (Nat.le_of_ble_eq_true rfl) (by unfold cntV; first | rw [if_pos (by omega)] | rw [if_neg (by omega)]) dX12_count_86
  · refine lv_tableIn (tgt := 87) X.1 X.2.1 dX12_count_8 (by omega) (by omega) (by rw [w3_8]; rfl) (by decide) ?_
    refine lv_aload_n X.1 X.2.1 dX12_count_87 rfl (lv_at hl 1 rfl) ?_
    refine r_get (v := .int 0) X hw hat_mo 45 (by decide) rfl inn_X12_count_12 (by decide) (X.2.2.2.1 (.fieldLink RX12 302 "SilkMillModel" "today" "I") (by decide +kernel)) rfl ((gv_1245 _ _).trans (congrArg (fun z => some (Value.int z)) ci_1245)) dX12_count_88 ?_
    exact ret_i X hw hr hlocks (Nat.le_of_ble_eq_true rfl) (Nat.le_of_ble_eq_true rfl) (by unfold cntV; first | rw [if_pos (by omega)] | rw [if_neg (by omega)]) dX12_count_91
  · refine lv_tableIn (tgt := 92) X.1 X.2.1 dX12_count_8 (by omega) (by omega) (by rw [w3_8]; rfl) (by decide) ?_
    refine lv_aload_n X.1 X.2.1 dX12_count_92 rfl (lv_at hl 1 rfl) ?_
    refine r_get (v := .int 0) X hw hat_mo 28 (by decide) rfl inn_X12_count_12 (by decide) (X.2.2.2.1 (.fieldLink RX12 211 "SilkMillModel" "taped" "I") (by decide +kernel)) rfl ((gv_1228 _ _).trans (congrArg (fun z => some (Value.int z)) ci_1228)) dX12_count_93 ?_
    exact ret_i X hw hr hlocks (Nat.le_of_ble_eq_true rfl) (Nat.le_of_ble_eq_true rfl) (by unfold cntV; first | rw [if_pos (by omega)] | rw [if_neg (by omega)]) dX12_count_96
  · refine lv_tableIn (tgt := 97) X.1 X.2.1 dX12_count_8 (by omega) (by omega) (by rw [w3_8]; rfl) (by decide) ?_
    refine lv_aload_n X.1 X.2.1 dX12_count_97 rfl (lv_at hl 1 rfl) ?_
    refine r_get (v := .int 0) X hw hat_mo 62 (by decide) rfl inn_X12_count_12 (by decide) (X.2.2.2.1 (.fieldLink RX12 403 "SilkMillModel" "faults" "I") (by decide +kernel)) rfl ((gv_1262 _ _).trans (congrArg (fun z => some (Value.int z)) ci_1262)) dX12_count_98 ?_
    exact ret_i X hw hr hlocks (Nat.le_of_ble_eq_true rfl) (Nat.le_of_ble_eq_true rfl) (by unfold cntV; first | rw [if_pos (by omega)] | rw [if_neg (by omega)]) dX12_count_101
  · refine lv_tableIn (tgt := 102) X.1 X.2.1 dX12_count_8 (by omega) (by omega) (by rw [w3_8]; rfl) (by decide) ?_
    refine lv_iconst (v := 0) X.1 X.2.1 dX12_count_102 (by decide) ?_
    refine lv_istore_n (lv' := [(3, .int 0), (2, .int 0), (0, .ref mo), (1, .int (a1))]) X.1 X.2.1 dX12_count_103 rfl hl (by decide) rfl (fun ls hl => ?_)
    refine lv_iload_n X.1 X.2.1 dX12_count_104 rfl (lv_at hl 0 rfl) ?_
    refine lv_bipush (v := 60) X.1 X.2.1 dX12_count_105 (by decide) ?_
    refine lv_aload_n X.1 X.2.1 dX12_count_107 rfl (lv_at hl 2 rfl) ?_
    refine r_get (v := .int 0) X hw hat_mo 1 (by decide) rfl inn_X12_count_12 (by decide) (X.2.2.2.1 (.fieldLink RX12 165 "SilkMillModel" "lots" "I") (by decide +kernel)) rfl ((gv_1201 _ _).trans (congrArg (fun z => some (Value.int z)) ci_1201)) dX12_count_108 ?_
    refine lv_imul X.1 X.2.1 dX12_count_111 ?_
    refine lv_topi (fun v_3 ev_3 => ?_)
    obtain rfl : v_3 = 0 := ev_3.trans (by decide +kernel)
    refine lv_icmp_ge (tgt := 152) X.1 X.2.1 dX12_count_112 (by decide) (fun c_112 => ?_) (fun c_112 => absurd c_112 (by decide))
    refine lv_iload_n X.1 X.2.1 dX12_count_152 rfl (lv_at hl 1 rfl) ?_
    exact ret_i X hw hr hlocks (Nat.le_of_ble_eq_true rfl) (Nat.le_of_ble_eq_true rfl) (by unfold cntV; first | rw [if_pos (by omega)] | rw [if_neg (by omega)]) dX12_count_153
  · refine lv_tableIn (tgt := 154) X.1 X.2.1 dX12_count_8 (by omega) (by omega) (by rw [w3_8]; rfl) (by decide) ?_
    refine lv_aload_n X.1 X.2.1 dX12_count_154 rfl (lv_at hl 1 rfl) ?_
    refine lv_iconst (v := 0) X.1 X.2.1 dX12_count_155 (by decide) ?_
    refine lv_aload_n X.1 X.2.1 dX12_count_156 rfl (lv_at hl 1 rfl) ?_
    refine r_getR (g := 1239) X hw hat_mo 39 rf_q1239 (by decide) rfl inn_X12_count_12 (by decide) (X.2.2.2.1 (.fieldLink RX12 100 "SilkMillModel" "firstMetre" "[I") (by decide +kernel)) rfl (gv_1239 _ _) dX12_count_157 ?_
    refine lv_aload_n X.1 X.2.1 dX12_count_160 rfl (lv_at hl 1 rfl) ?_
    refine r_get (v := .int 0) X hw hat_mo 38 (by decide) rfl inn_X12_count_12 (by decide) (X.2.2.2.1 (.fieldLink RX12 290 "SilkMillModel" "skeins" "I") (by decide +kernel)) rfl ((gv_1238 _ _).trans (congrArg (fun z => some (Value.int z)) ci_1238)) dX12_count_161 ?_
    refine r_iald X hw hat_q1239 (by rw [ln_q1239]; exact vp_in_iff.mpr (by decide +kernel)) dX12_count_164 ?_
    refine lv_topi (fun v_4 ev_4 => ?_)
    obtain rfl : v_4 = 0 := ev_4.trans (hz9 _)
    refine k_i (rm := { frames := 3, cells := 0, slots := 0, locals := 120 }) (av := [.ref mo, .int 0, .int 0]) X hw (va_runV (As := [.int 0, .int 0]) (rest := []) (cfix X) (c_X12_weight l G cy S_1 _ mo hat_mo) (cwV 2 X.2.2.2.1 gX12_count_X12_weight rfl rfl rfl (by decide +kernel) ⟨Nat.le_of_ble_eq_true rfl, Nat.le_of_ble_eq_true rfl⟩) (pre_V X hw _ hat_mo (by decide) rfl) rfl rfl hl.1 rfl (lv_room (Nat.le_of_ble_eq_true rfl)) dX12_count_165 ⟨Nat.le_of_ble_eq_true rfl, Nat.le_of_ble_eq_true rfl⟩) 0 0 (Nat.le_of_ble_eq_true rfl) (Nat.le_of_ble_eq_true rfl) (fun rr_165 S2 H locs hp hw hfr hnw => ?_)
    obtain ⟨e2_165, er_165⟩ := hp
    subst e2_165
    subst er_165
    exact ret_i X hw hr hlocks (Nat.le_of_ble_eq_true rfl) (Nat.le_of_ble_eq_true rfl) (by unfold cntV; first | rw [if_pos (by omega)] | rw [if_neg (by omega)]) dX12_count_168
  · refine lv_tableIn (tgt := 169) X.1 X.2.1 dX12_count_8 (by omega) (by omega) (by rw [w3_8]; rfl) (by decide) ?_
    refine lv_iconst (v := 0) X.1 X.2.1 dX12_count_169 (by decide) ?_
    refine lv_istore_n (lv' := [(3, .int 0), (2, .int 0), (0, .ref mo), (1, .int (a1))]) X.1 X.2.1 dX12_count_170 rfl hl (by decide) rfl (fun ls hl => ?_)
    refine lv_iload_n X.1 X.2.1 dX12_count_171 rfl (lv_at hl 0 rfl) ?_
    refine lv_aload_n X.1 X.2.1 dX12_count_172 rfl (lv_at hl 2 rfl) ?_
    refine r_get (v := .int 0) X hw hat_mo 11 (by decide) rfl inn_X12_count_12 (by decide) (X.2.2.2.1 (.fieldLink RX12 197 "SilkMillModel" "pots" "I") (by decide +kernel)) rfl ((gv_1211 _ _).trans (congrArg (fun z => some (Value.int z)) ci_1211)) dX12_count_173 ?_
    refine lv_icmp_ge (tgt := 203) X.1 X.2.1 dX12_count_176 (by decide) (fun c_176 => ?_) (fun c_176 => absurd c_176 (by decide))
    refine lv_iload_n X.1 X.2.1 dX12_count_203 rfl (lv_at hl 1 rfl) ?_
    exact ret_i X hw hr hlocks (Nat.le_of_ble_eq_true rfl) (Nat.le_of_ble_eq_true rfl) (by unfold cntV; first | rw [if_pos (by omega)] | rw [if_neg (by omega)]) dX12_count_204
  · refine lv_tableIn (tgt := 205) X.1 X.2.1 dX12_count_8 (by omega) (by omega) (by rw [w3_8]; rfl) (by decide) ?_
    refine lv_aload_n X.1 X.2.1 dX12_count_205 rfl (lv_at hl 1 rfl) ?_
    refine r_get (v := .int 0) X hw hat_mo 46 (by decide) rfl inn_X12_count_12 (by decide) (X.2.2.2.1 (.fieldLink RX12 293 "SilkMillModel" "waste" "I") (by decide +kernel)) rfl ((gv_1246 _ _).trans (congrArg (fun z => some (Value.int z)) ci_1246)) dX12_count_206 ?_
    exact ret_i X hw hr hlocks (Nat.le_of_ble_eq_true rfl) (Nat.le_of_ble_eq_true rfl) (by unfold cntV; first | rw [if_pos (by omega)] | rw [if_neg (by omega)]) dX12_count_209
  · refine lv_tableIn (tgt := 210) X.1 X.2.1 dX12_count_8 (by omega) (by omega) (by rw [w3_8]; rfl) (by decide) ?_
    refine lv_iconst (v := 0) X.1 X.2.1 dX12_count_210 (by decide) ?_
    refine lv_istore_n (lv' := [(3, .int 0), (2, .int 0), (0, .ref mo), (1, .int (a1))]) X.1 X.2.1 dX12_count_211 rfl hl (by decide) rfl (fun ls hl => ?_)
    refine lv_iload_n X.1 X.2.1 dX12_count_212 rfl (lv_at hl 0 rfl) ?_
    refine lv_bipush (v := 60) X.1 X.2.1 dX12_count_213 (by decide) ?_
    refine lv_aload_n X.1 X.2.1 dX12_count_215 rfl (lv_at hl 2 rfl) ?_
    refine r_get (v := .int 0) X hw hat_mo 1 (by decide) rfl inn_X12_count_12 (by decide) (X.2.2.2.1 (.fieldLink RX12 165 "SilkMillModel" "lots" "I") (by decide +kernel)) rfl ((gv_1201 _ _).trans (congrArg (fun z => some (Value.int z)) ci_1201)) dX12_count_216 ?_
    refine lv_imul X.1 X.2.1 dX12_count_219 ?_
    refine lv_topi (fun v_5 ev_5 => ?_)
    obtain rfl : v_5 = 0 := ev_5.trans (by decide +kernel)
    refine lv_icmp_ge (tgt := 275) X.1 X.2.1 dX12_count_220 (by decide) (fun c_220 => ?_) (fun c_220 => absurd c_220 (by decide))
    refine lv_iload_n X.1 X.2.1 dX12_count_275 rfl (lv_at hl 1 rfl) ?_
    exact ret_i X hw hr hlocks (Nat.le_of_ble_eq_true rfl) (Nat.le_of_ble_eq_true rfl) (by unfold cntV; first | rw [if_pos (by omega)] | rw [if_neg (by omega)]) dX12_count_276
  · refine lv_tableIn (tgt := 277) X.1 X.2.1 dX12_count_8 (by omega) (by omega) (by rw [w3_8]; rfl) (by decide) ?_
    refine lv_iconst (v := 0) X.1 X.2.1 dX12_count_277 (by decide) ?_
    refine lv_istore_n (lv' := [(3, .int 0), (2, .int 0), (0, .ref mo), (1, .int (a1))]) X.1 X.2.1 dX12_count_278 rfl hl (by decide) rfl (fun ls hl => ?_)
    refine lv_iload_n X.1 X.2.1 dX12_count_279 rfl (lv_at hl 0 rfl) ?_
    refine lv_bipush (v := 16) X.1 X.2.1 dX12_count_280 (by decide) ?_
    refine lv_icmp_ge (tgt := 308) X.1 X.2.1 dX12_count_282 (by decide) (fun c_282 => absurd c_282 (by decide)) (fun c_282 => ?_)
    refine lv_iload_n X.1 X.2.1 dX12_count_285 rfl (lv_at hl 1 rfl) ?_
    refine lv_aload_n X.1 X.2.1 dX12_count_286 rfl (lv_at hl 2 rfl) ?_
    refine r_getR (g := 1253) X hw hat_mo 53 rf_q1253 (by decide) rfl inn_X12_count_12 (by decide) (X.2.2.2.1 (.fieldLink RX12 125 "SilkMillModel" "isLaid" "[Z") (by decide +kernel)) rfl (gv_1253 _ _) dX12_count_287 ?_
    refine lv_iload_n X.1 X.2.1 dX12_count_290 rfl (lv_at hl 0 rfl) ?_
    refine r_zald X hw hat_q1253 (by rw [ln_q1253]; exact vp_in_iff.mpr (by decide +kernel)) dX12_count_291 ?_
    refine lv_topi (fun v_6 ev_6 => ?_)
    obtain rfl : v_6 = 0 := ev_6.trans (hz _)
    refine lv_if_eq (tgt := 299) X.1 X.2.1 dX12_count_292 (by decide) (fun c_292 => ?_) (fun c_292 => absurd c_292 (by decide))
    refine lv_iconst (v := 0) X.1 X.2.1 dX12_count_299 (by decide) ?_
    refine lv_iadd X.1 X.2.1 dX12_count_300 ?_
    refine lv_topi (fun v_7 ev_7 => ?_)
    obtain rfl : v_7 = 0 := ev_7.trans (by decide +kernel)
    refine lv_istore_n (lv' := [(2, .int 0), (3, .int 0), (0, .ref mo), (1, .int (a1))]) X.1 X.2.1 dX12_count_301 rfl hl (by decide) rfl (fun ls hl => ?_)
    refine lv_iinc (v := 1) (lv' := [(3, .int 1), (2, .int 0), (0, .ref mo), (1, .int (a1))]) X.1 X.2.1 dX12_count_302 hl (k := 1) rfl (by decide) (by decide) rfl (fun ls hl => ?_)
    refine lv_goto (tgt := 279) X.1 X.2.1 dX12_count_305 (by decide) ?_
    refine lv_iload_n X.1 X.2.1 dX12_count_279 rfl (lv_at hl 0 rfl) ?_
    refine lv_bipush (v := 16) X.1 X.2.1 dX12_count_280 (by decide) ?_
    refine lv_icmp_ge (tgt := 308) X.1 X.2.1 dX12_count_282 (by decide) (fun c_282 => absurd c_282 (by decide)) (fun c_282 => ?_)
    refine lv_iload_n X.1 X.2.1 dX12_count_285 rfl (lv_at hl 1 rfl) ?_
    refine lv_aload_n X.1 X.2.1 dX12_count_286 rfl (lv_at hl 2 rfl) ?_
    refine r_getR (g := 1253) X hw hat_mo 53 rf_q1253 (by decide) rfl inn_X12_count_12 (by decide) (X.2.2.2.1 (.fieldLink RX12 125 "SilkMillModel" "isLaid" "[Z") (by decide +kernel)) rfl (gv_1253 _ _) dX12_count_287 ?_
    refine lv_iload_n X.1 X.2.1 dX12_count_290 rfl (lv_at hl 0 rfl) ?_
    refine r_zald X hw hat_q1253 (by rw [ln_q1253]; exact vp_in_iff.mpr (by decide +kernel)) dX12_count_291 ?_
    refine lv_topi (fun v_8 ev_8 => ?_)
    obtain rfl : v_8 = 0 := ev_8.trans (hz _)
    refine lv_if_eq (tgt := 299) X.1 X.2.1 dX12_count_292 (by decide) (fun c_292 => ?_) (fun c_292 => absurd c_292 (by decide))
    refine lv_iconst (v := 0) X.1 X.2.1 dX12_count_299 (by decide) ?_
    refine lv_iadd X.1 X.2.1 dX12_count_300 ?_
    refine lv_topi (fun v_9 ev_9 => ?_)
    obtain rfl : v_9 = 0 := ev_9.trans (by decide +kernel)
    refine lv_istore_n (lv' := [(2, .int 0), (3, .int 1), (0, .ref mo), (1, .int (a1))]) X.1 X.2.1 dX12_count_301 rfl hl (by decide) rfl (fun ls hl => ?_)
    refine lv_iinc (v := 2) (lv' := [(3, .int 2), (2, .int 0), (0, .ref mo), (1, .int (a1))]) X.1 X.2.1 dX12_count_302 hl (k := 1) rfl (by decide) (by decide) rfl (fun ls hl => ?_)
    refine lv_goto (tgt := 279) X.1 X.2.1 dX12_count_305 (by decide) ?_
    refine lv_iload_n X.1 X.2.1 dX12_count_279 rfl (lv_at hl 0 rfl) ?_
    refine lv_bipush (v := 16) X.1 X.2.1 dX12_count_280 (by decide) ?_
    refine lv_icmp_ge (tgt := 308) X.1 X.2.1 dX12_count_282 (by decide) (fun c_282 => absurd c_282 (by decide)) (fun c_282 => ?_)
    refine lv_iload_n X.1 X.2.1 dX12_count_285 rfl (lv_at hl 1 rfl) ?_
    refine lv_aload_n X.1 X.2.1 dX12_count_286 rfl (lv_at hl 2 rfl) ?_
    refine r_getR (g := 1253) X hw hat_mo 53 rf_q1253 (by decide) rfl inn_X12_count_12 (by decide) (X.2.2.2.1 (.fieldLink RX12 125 "SilkMillModel" "isLaid" "[Z") (by decide +kernel)) rfl (gv_1253 _ _) dX12_count_287 ?_
    refine lv_iload_n X.1 X.2.1 dX12_count_290 rfl (lv_at hl 0 rfl) ?_
    refine r_zald X hw hat_q1253 (by rw [ln_q1253]; exact vp_in_iff.mpr (by decide +kernel)) dX12_count_291 ?_
    refine lv_topi (fun v_10 ev_10 => ?_)
    obtain rfl : v_10 = 0 := ev_10.trans (hz _)
    refine lv_if_eq (tgt := 299) X.1 X.2.1 dX12_count_292 (by decide) (fun c_292 => ?_) (fun c_292 => absurd c_292 (by decide))
    refine lv_iconst (v := 0) X.1 X.2.1 dX12_count_299 (by decide) ?_
    refine lv_iadd X.1 X.2.1 dX12_count_300 ?_
    refine lv_topi (fun v_11 ev_11 => ?_)
    obtain rfl : v_11 = 0 := ev_11.trans (by decide +kernel)
    refine lv_istore_n (lv' := [(2, .int 0), (3, .int 2), (0, .ref mo), (1, .int (a1))]) X.1 X.2.1 dX12_count_301 rfl hl (by decide) rfl (fun ls hl => ?_)
    refine lv_iinc (v := 3) (lv' := [(3, .int 3), (2, .int 0), (0, .ref mo), (1, .int (a1))]) X.1 X.2.1 dX12_count_302 hl (k := 1) rfl (by decide) (by decide) rfl (fun ls hl => ?_)
    refine lv_goto (tgt := 279) X.1 X.2.1 dX12_count_305 (by decide) ?_
    refine lv_iload_n X.1 X.2.1 dX12_count_279 rfl (lv_at hl 0 rfl) ?_
    refine lv_bipush (v := 16) X.1 X.2.1 dX12_count_280 (by decide) ?_
    refine lv_icmp_ge (tgt := 308) X.1 X.2.1 dX12_count_282 (by decide) (fun c_282 => absurd c_282 (by decide)) (fun c_282 => ?_)
    refine lv_iload_n X.1 X.2.1 dX12_count_285 rfl (lv_at hl 1 rfl) ?_
    refine lv_aload_n X.1 X.2.1 dX12_count_286 rfl (lv_at hl 2 rfl) ?_
    refine r_getR (g := 1253) X hw hat_mo 53 rf_q1253 (by decide) rfl inn_X12_count_12 (by decide) (X.2.2.2.1 (.fieldLink RX12 125 "SilkMillModel" "isLaid" "[Z") (by decide +kernel)) rfl (gv_1253 _ _) dX12_count_287 ?_
    refine lv_iload_n X.1 X.2.1 dX12_count_290 rfl (lv_at hl 0 rfl) ?_
    refine r_zald X hw hat_q1253 (by rw [ln_q1253]; exact vp_in_iff.mpr (by decide +kernel)) dX12_count_291 ?_
    refine lv_topi (fun v_12 ev_12 => ?_)
    obtain rfl : v_12 = 0 := ev_12.trans (hz _)
    refine lv_if_eq (tgt := 299) X.1 X.2.1 dX12_count_292 (by decide) (fun c_292 => ?_) (fun c_292 => absurd c_292 (by decide))
    refine lv_iconst (v := 0) X.1 X.2.1 dX12_count_299 (by decide) ?_
    refine lv_iadd X.1 X.2.1 dX12_count_300 ?_
    refine lv_topi (fun v_13 ev_13 => ?_)
    obtain rfl : v_13 = 0 := ev_13.trans (by decide +kernel)
    refine lv_istore_n (lv' := [(2, .int 0), (3, .int 3), (0, .ref mo), (1, .int (a1))]) X.1 X.2.1 dX12_count_301 rfl hl (by decide) rfl (fun ls hl => ?_)
    refine lv_iinc (v := 4) (lv' := [(3, .int 4), (2, .int 0), (0, .ref mo), (1, .int (a1))]) X.1 X.2.1 dX12_count_302 hl (k := 1) rfl (by decide) (by decide) rfl (fun ls hl => ?_)
    refine lv_goto (tgt := 279) X.1 X.2.1 dX12_count_305 (by decide) ?_
    refine lv_iload_n X.1 X.2.1 dX12_count_279 rfl (lv_at hl 0 rfl) ?_
    refine lv_bipush (v := 16) X.1 X.2.1 dX12_count_280 (by decide) ?_
    refine lv_icmp_ge (tgt := 308) X.1 X.2.1 dX12_count_282 (by decide) (fun c_282 => absurd c_282 (by decide)) (fun c_282 => ?_)
    refine lv_iload_n X.1 X.2.1 dX12_count_285 rfl (lv_at hl 1 rfl) ?_
    refine lv_aload_n X.1 X.2.1 dX12_count_286 rfl (lv_at hl 2 rfl) ?_
    refine r_getR (g := 1253) X hw hat_mo 53 rf_q1253 (by decide) rfl inn_X12_count_12 (by decide) (X.2.2.2.1 (.fieldLink RX12 125 "SilkMillModel" "isLaid" "[Z") (by decide +kernel)) rfl (gv_1253 _ _) dX12_count_287 ?_
    refine lv_iload_n X.1 X.2.1 dX12_count_290 rfl (lv_at hl 0 rfl) ?_
    refine r_zald X hw hat_q1253 (by rw [ln_q1253]; exact vp_in_iff.mpr (by decide +kernel)) dX12_count_291 ?_
    refine lv_topi (fun v_14 ev_14 => ?_)
    obtain rfl : v_14 = 0 := ev_14.trans (hz _)
    refine lv_if_eq (tgt := 299) X.1 X.2.1 dX12_count_292 (by decide) (fun c_292 => ?_) (fun c_292 => absurd c_292 (by decide))
    refine lv_iconst (v := 0) X.1 X.2.1 dX12_count_299 (by decide) ?_
    refine lv_iadd X.1 X.2.1 dX12_count_300 ?_
    refine lv_topi (fun v_15 ev_15 => ?_)
    obtain rfl : v_15 = 0 := ev_15.trans (by decide +kernel)
    refine lv_istore_n (lv' := [(2, .int 0), (3, .int 4), (0, .ref mo), (1, .int (a1))]) X.1 X.2.1 dX12_count_301 rfl hl (by decide) rfl (fun ls hl => ?_)
    refine lv_iinc (v := 5) (lv' := [(3, .int 5), (2, .int 0), (0, .ref mo), (1, .int (a1))]) X.1 X.2.1 dX12_count_302 hl (k := 1) rfl (by decide) (by decide) rfl (fun ls hl => ?_)
    refine lv_goto (tgt := 279) X.1 X.2.1 dX12_count_305 (by decide) ?_
    refine lv_iload_n X.1 X.2.1 dX12_count_279 rfl (lv_at hl 0 rfl) ?_
    refine lv_bipush (v := 16) X.1 X.2.1 dX12_count_280 (by decide) ?_
    refine lv_icmp_ge (tgt := 308) X.1 X.2.1 dX12_count_282 (by decide) (fun c_282 => absurd c_282 (by decide)) (fun c_282 => ?_)
    refine lv_iload_n X.1 X.2.1 dX12_count_285 rfl (lv_at hl 1 rfl) ?_
    refine lv_aload_n X.1 X.2.1 dX12_count_286 rfl (lv_at hl 2 rfl) ?_
    refine r_getR (g := 1253) X hw hat_mo 53 rf_q1253 (by decide) rfl inn_X12_count_12 (by decide) (X.2.2.2.1 (.fieldLink RX12 125 "SilkMillModel" "isLaid" "[Z") (by decide +kernel)) rfl (gv_1253 _ _) dX12_count_287 ?_
    refine lv_iload_n X.1 X.2.1 dX12_count_290 rfl (lv_at hl 0 rfl) ?_
    refine r_zald X hw hat_q1253 (by rw [ln_q1253]; exact vp_in_iff.mpr (by decide +kernel)) dX12_count_291 ?_
    refine lv_topi (fun v_16 ev_16 => ?_)
    obtain rfl : v_16 = 0 := ev_16.trans (hz _)
    refine lv_if_eq (tgt := 299) X.1 X.2.1 dX12_count_292 (by decide) (fun c_292 => ?_) (fun c_292 => absurd c_292 (by decide))
    refine lv_iconst (v := 0) X.1 X.2.1 dX12_count_299 (by decide) ?_
    refine lv_iadd X.1 X.2.1 dX12_count_300 ?_
    refine lv_topi (fun v_17 ev_17 => ?_)
    obtain rfl : v_17 = 0 := ev_17.trans (by decide +kernel)
    refine lv_istore_n (lv' := [(2, .int 0), (3, .int 5), (0, .ref mo), (1, .int (a1))]) X.1 X.2.1 dX12_count_301 rfl hl (by decide) rfl (fun ls hl => ?_)
    refine lv_iinc (v := 6) (lv' := [(3, .int 6), (2, .int 0), (0, .ref mo), (1, .int (a1))]) X.1 X.2.1 dX12_count_302 hl (k := 1) rfl (by decide) (by decide) rfl (fun ls hl => ?_)
    refine lv_goto (tgt := 279) X.1 X.2.1 dX12_count_305 (by decide) ?_
    refine lv_iload_n X.1 X.2.1 dX12_count_279 rfl (lv_at hl 0 rfl) ?_
    refine lv_bipush (v := 16) X.1 X.2.1 dX12_count_280 (by decide) ?_
    refine lv_icmp_ge (tgt := 308) X.1 X.2.1 dX12_count_282 (by decide) (fun c_282 => absurd c_282 (by decide)) (fun c_282 => ?_)
    refine lv_iload_n X.1 X.2.1 dX12_count_285 rfl (lv_at hl 1 rfl) ?_
    refine lv_aload_n X.1 X.2.1 dX12_count_286 rfl (lv_at hl 2 rfl) ?_
    refine r_getR (g := 1253) X hw hat_mo 53 rf_q1253 (by decide) rfl inn_X12_count_12 (by decide) (X.2.2.2.1 (.fieldLink RX12 125 "SilkMillModel" "isLaid" "[Z") (by decide +kernel)) rfl (gv_1253 _ _) dX12_count_287 ?_
    refine lv_iload_n X.1 X.2.1 dX12_count_290 rfl (lv_at hl 0 rfl) ?_
    refine r_zald X hw hat_q1253 (by rw [ln_q1253]; exact vp_in_iff.mpr (by decide +kernel)) dX12_count_291 ?_
    refine lv_topi (fun v_18 ev_18 => ?_)
    obtain rfl : v_18 = 0 := ev_18.trans (hz _)
    refine lv_if_eq (tgt := 299) X.1 X.2.1 dX12_count_292 (by decide) (fun c_292 => ?_) (fun c_292 => absurd c_292 (by decide))
    refine lv_iconst (v := 0) X.1 X.2.1 dX12_count_299 (by decide) ?_
    refine lv_iadd X.1 X.2.1 dX12_count_300 ?_
    refine lv_topi (fun v_19 ev_19 => ?_)
    obtain rfl : v_19 = 0 := ev_19.trans (by decide +kernel)
    refine lv_istore_n (lv' := [(2, .int 0), (3, .int 6), (0, .ref mo), (1, .int (a1))]) X.1 X.2.1 dX12_count_301 rfl hl (by decide) rfl (fun ls hl => ?_)
    refine lv_iinc (v := 7) (lv' := [(3, .int 7), (2, .int 0), (0, .ref mo), (1, .int (a1))]) X.1 X.2.1 dX12_count_302 hl (k := 1) rfl (by decide) (by decide) rfl (fun ls hl => ?_)
    refine lv_goto (tgt := 279) X.1 X.2.1 dX12_count_305 (by decide) ?_
    refine lv_iload_n X.1 X.2.1 dX12_count_279 rfl (lv_at hl 0 rfl) ?_
    refine lv_bipush (v := 16) X.1 X.2.1 dX12_count_280 (by decide) ?_
    refine lv_icmp_ge (tgt := 308) X.1 X.2.1 dX12_count_282 (by decide) (fun c_282 => absurd c_282 (by decide)) (fun c_282 => ?_)
    refine lv_iload_n X.1 X.2.1 dX12_count_285 rfl (lv_at hl 1 rfl) ?_
    refine lv_aload_n X.1 X.2.1 dX12_count_286 rfl (lv_at hl 2 rfl) ?_
    refine r_getR (g := 1253) X hw hat_mo 53 rf_q1253 (by decide) rfl inn_X12_count_12 (by decide) (X.2.2.2.1 (.fieldLink RX12 125 "SilkMillModel" "isLaid" "[Z") (by decide +kernel)) rfl (gv_1253 _ _) dX12_count_287 ?_
    refine lv_iload_n X.1 X.2.1 dX12_count_290 rfl (lv_at hl 0 rfl) ?_
    refine r_zald X hw hat_q1253 (by rw [ln_q1253]; exact vp_in_iff.mpr (by decide +kernel)) dX12_count_291 ?_
    refine lv_topi (fun v_20 ev_20 => ?_)
    obtain rfl : v_20 = 0 := ev_20.trans (hz _)
    refine lv_if_eq (tgt := 299) X.1 X.2.1 dX12_count_292 (by decide) (fun c_292 => ?_) (fun c_292 => absurd c_292 (by decide))
    refine lv_iconst (v := 0) X.1 X.2.1 dX12_count_299 (by decide) ?_
    refine lv_iadd X.1 X.2.1 dX12_count_300 ?_
    refine lv_topi (fun v_21 ev_21 => ?_)
    obtain rfl : v_21 = 0 := ev_21.trans (by decide +kernel)
    refine lv_istore_n (lv' := [(2, .int 0), (3, .int 7), (0, .ref mo), (1, .int (a1))]) X.1 X.2.1 dX12_count_301 rfl hl (by decide) rfl (fun ls hl => ?_)
    refine lv_iinc (v := 8) (lv' := [(3, .int 8), (2, .int 0), (0, .ref mo), (1, .int (a1))]) X.1 X.2.1 dX12_count_302 hl (k := 1) rfl (by decide) (by decide) rfl (fun ls hl => ?_)
    refine lv_goto (tgt := 279) X.1 X.2.1 dX12_count_305 (by decide) ?_
    refine lv_iload_n X.1 X.2.1 dX12_count_279 rfl (lv_at hl 0 rfl) ?_
    refine lv_bipush (v := 16) X.1 X.2.1 dX12_count_280 (by decide) ?_
    refine lv_icmp_ge (tgt := 308) X.1 X.2.1 dX12_count_282 (by decide) (fun c_282 => absurd c_282 (by decide)) (fun c_282 => ?_)
    refine lv_iload_n X.1 X.2.1 dX12_count_285 rfl (lv_at hl 1 rfl) ?_
    refine lv_aload_n X.1 X.2.1 dX12_count_286 rfl (lv_at hl 2 rfl) ?_
    refine r_getR (g := 1253) X hw hat_mo 53 rf_q1253 (by decide) rfl inn_X12_count_12 (by decide) (X.2.2.2.1 (.fieldLink RX12 125 "SilkMillModel" "isLaid" "[Z") (by decide +kernel)) rfl (gv_1253 _ _) dX12_count_287 ?_
    refine lv_iload_n X.1 X.2.1 dX12_count_290 rfl (lv_at hl 0 rfl) ?_
    refine r_zald X hw hat_q1253 (by rw [ln_q1253]; exact vp_in_iff.mpr (by decide +kernel)) dX12_count_291 ?_
    refine lv_topi (fun v_22 ev_22 => ?_)
    obtain rfl : v_22 = 0 := ev_22.trans (hz _)
    refine lv_if_eq (tgt := 299) X.1 X.2.1 dX12_count_292 (by decide) (fun c_292 => ?_) (fun c_292 => absurd c_292 (by decide))
    refine lv_iconst (v := 0) X.1 X.2.1 dX12_count_299 (by decide) ?_
    refine lv_iadd X.1 X.2.1 dX12_count_300 ?_
    refine lv_topi (fun v_23 ev_23 => ?_)
    obtain rfl : v_23 = 0 := ev_23.trans (by decide +kernel)
    refine lv_istore_n (lv' := [(2, .int 0), (3, .int 8), (0, .ref mo), (1, .int (a1))]) X.1 X.2.1 dX12_count_301 rfl hl (by decide) rfl (fun ls hl => ?_)
    refine lv_iinc (v := 9) (lv' := [(3, .int 9), (2, .int 0), (0, .ref mo), (1, .int (a1))]) X.1 X.2.1 dX12_count_302 hl (k := 1) rfl (by decide) (by decide) rfl (fun ls hl => ?_)
    refine lv_goto (tgt := 279) X.1 X.2.1 dX12_count_305 (by decide) ?_
    refine lv_iload_n X.1 X.2.1 dX12_count_279 rfl (lv_at hl 0 rfl) ?_
    refine lv_bipush (v := 16) X.1 X.2.1 dX12_count_280 (by decide) ?_
    refine lv_icmp_ge (tgt := 308) X.1 X.2.1 dX12_count_282 (by decide) (fun c_282 => absurd c_282 (by decide)) (fun c_282 => ?_)
    refine lv_iload_n X.1 X.2.1 dX12_count_285 rfl (lv_at hl 1 rfl) ?_
    refine lv_aload_n X.1 X.2.1 dX12_count_286 rfl (lv_at hl 2 rfl) ?_
    refine r_getR (g := 1253) X hw hat_mo 53 rf_q1253 (by decide) rfl inn_X12_count_12 (by decide) (X.2.2.2.1 (.fieldLink RX12 125 "SilkMillModel" "isLaid" "[Z") (by decide +kernel)) rfl (gv_1253 _ _) dX12_count_287 ?_
    refine lv_iload_n X.1 X.2.1 dX12_count_290 rfl (lv_at hl 0 rfl) ?_
    refine r_zald X hw hat_q1253 (by rw [ln_q1253]; exact vp_in_iff.mpr (by decide +kernel)) dX12_count_291 ?_
    refine lv_topi (fun v_24 ev_24 => ?_)
    obtain rfl : v_24 = 0 := ev_24.trans (hz _)
    refine lv_if_eq (tgt := 299) X.1 X.2.1 dX12_count_292 (by decide) (fun c_292 => ?_) (fun c_292 => absurd c_292 (by decide))
    refine lv_iconst (v := 0) X.1 X.2.1 dX12_count_299 (by decide) ?_
    refine lv_iadd X.1 X.2.1 dX12_count_300 ?_
    refine lv_topi (fun v_25 ev_25 => ?_)
    obtain rfl : v_25 = 0 := ev_25.trans (by decide +kernel)
    refine lv_istore_n (lv' := [(2, .int 0), (3, .int 9), (0, .ref mo), (1, .int (a1))]) X.1 X.2.1 dX12_count_301 rfl hl (by decide) rfl (fun ls hl => ?_)
    refine lv_iinc (v := 10) (lv' := [(3, .int 10), (2, .int 0), (0, .ref mo), (1, .int (a1))]) X.1 X.2.1 dX12_count_302 hl (k := 1) rfl (by decide) (by decide) rfl (fun ls hl => ?_)
    refine lv_goto (tgt := 279) X.1 X.2.1 dX12_count_305 (by decide) ?_
    refine lv_iload_n X.1 X.2.1 dX12_count_279 rfl (lv_at hl 0 rfl) ?_
    refine lv_bipush (v := 16) X.1 X.2.1 dX12_count_280 (by decide) ?_
    refine lv_icmp_ge (tgt := 308) X.1 X.2.1 dX12_count_282 (by decide) (fun c_282 => absurd c_282 (by decide)) (fun c_282 => ?_)
    refine lv_iload_n X.1 X.2.1 dX12_count_285 rfl (lv_at hl 1 rfl) ?_
    refine lv_aload_n X.1 X.2.1 dX12_count_286 rfl (lv_at hl 2 rfl) ?_
    refine r_getR (g := 1253) X hw hat_mo 53 rf_q1253 (by decide) rfl inn_X12_count_12 (by decide) (X.2.2.2.1 (.fieldLink RX12 125 "SilkMillModel" "isLaid" "[Z") (by decide +kernel)) rfl (gv_1253 _ _) dX12_count_287 ?_
    refine lv_iload_n X.1 X.2.1 dX12_count_290 rfl (lv_at hl 0 rfl) ?_
    refine r_zald X hw hat_q1253 (by rw [ln_q1253]; exact vp_in_iff.mpr (by decide +kernel)) dX12_count_291 ?_
    refine lv_topi (fun v_26 ev_26 => ?_)
    obtain rfl : v_26 = 0 := ev_26.trans (hz _)
    refine lv_if_eq (tgt := 299) X.1 X.2.1 dX12_count_292 (by decide) (fun c_292 => ?_) (fun c_292 => absurd c_292 (by decide))
    refine lv_iconst (v := 0) X.1 X.2.1 dX12_count_299 (by decide) ?_
    refine lv_iadd X.1 X.2.1 dX12_count_300 ?_
    refine lv_topi (fun v_27 ev_27 => ?_)
    obtain rfl : v_27 = 0 := ev_27.trans (by decide +kernel)
    refine lv_istore_n (lv' := [(2, .int 0), (3, .int 10), (0, .ref mo), (1, .int (a1))]) X.1 X.2.1 dX12_count_301 rfl hl (by decide) rfl (fun ls hl => ?_)
    refine lv_iinc (v := 11) (lv' := [(3, .int 11), (2, .int 0), (0, .ref mo), (1, .int (a1))]) X.1 X.2.1 dX12_count_302 hl (k := 1) rfl (by decide) (by decide) rfl (fun ls hl => ?_)
    refine lv_goto (tgt := 279) X.1 X.2.1 dX12_count_305 (by decide) ?_
    refine lv_iload_n X.1 X.2.1 dX12_count_279 rfl (lv_at hl 0 rfl) ?_
    refine lv_bipush (v := 16) X.1 X.2.1 dX12_count_280 (by decide) ?_
    refine lv_icmp_ge (tgt := 308) X.1 X.2.1 dX12_count_282 (by decide) (fun c_282 => absurd c_282 (by decide)) (fun c_282 => ?_)
    refine lv_iload_n X.1 X.2.1 dX12_count_285 rfl (lv_at hl 1 rfl) ?_
    refine lv_aload_n X.1 X.2.1 dX12_count_286 rfl (lv_at hl 2 rfl) ?_
    refine r_getR (g := 1253) X hw hat_mo 53 rf_q1253 (by decide) rfl inn_X12_count_12 (by decide) (X.2.2.2.1 (.fieldLink RX12 125 "SilkMillModel" "isLaid" "[Z") (by decide +kernel)) rfl (gv_1253 _ _) dX12_count_287 ?_
    refine lv_iload_n X.1 X.2.1 dX12_count_290 rfl (lv_at hl 0 rfl) ?_
    refine r_zald X hw hat_q1253 (by rw [ln_q1253]; exact vp_in_iff.mpr (by decide +kernel)) dX12_count_291 ?_
    refine lv_topi (fun v_28 ev_28 => ?_)
    obtain rfl : v_28 = 0 := ev_28.trans (hz _)
    refine lv_if_eq (tgt := 299) X.1 X.2.1 dX12_count_292 (by decide) (fun c_292 => ?_) (fun c_292 => absurd c_292 (by decide))
    refine lv_iconst (v := 0) X.1 X.2.1 dX12_count_299 (by decide) ?_
    refine lv_iadd X.1 X.2.1 dX12_count_300 ?_
    refine lv_topi (fun v_29 ev_29 => ?_)
    obtain rfl : v_29 = 0 := ev_29.trans (by decide +kernel)
    refine lv_istore_n (lv' := [(2, .int 0), (3, .int 11), (0, .ref mo), (1, .int (a1))]) X.1 X.2.1 dX12_count_301 rfl hl (by decide) rfl (fun ls hl => ?_)
    refine lv_iinc (v := 12) (lv' := [(3, .int 12), (2, .int 0), (0, .ref mo), (1, .int (a1))]) X.1 X.2.1 dX12_count_302 hl (k := 1) rfl (by decide) (by decide) rfl (fun ls hl => ?_)
    refine lv_goto (tgt := 279) X.1 X.2.1 dX12_count_305 (by decide) ?_
    refine lv_iload_n X.1 X.2.1 dX12_count_279 rfl (lv_at hl 0 rfl) ?_
    refine lv_bipush (v := 16) X.1 X.2.1 dX12_count_280 (by decide) ?_
    refine lv_icmp_ge (tgt := 308) X.1 X.2.1 dX12_count_282 (by decide) (fun c_282 => absurd c_282 (by decide)) (fun c_282 => ?_)
    refine lv_iload_n X.1 X.2.1 dX12_count_285 rfl (lv_at hl 1 rfl) ?_
    refine lv_aload_n X.1 X.2.1 dX12_count_286 rfl (lv_at hl 2 rfl) ?_
    refine r_getR (g := 1253) X hw hat_mo 53 rf_q1253 (by decide) rfl inn_X12_count_12 (by decide) (X.2.2.2.1 (.fieldLink RX12 125 "SilkMillModel" "isLaid" "[Z") (by decide +kernel)) rfl (gv_1253 _ _) dX12_count_287 ?_
    refine lv_iload_n X.1 X.2.1 dX12_count_290 rfl (lv_at hl 0 rfl) ?_
    refine r_zald X hw hat_q1253 (by rw [ln_q1253]; exact vp_in_iff.mpr (by decide +kernel)) dX12_count_291 ?_
    refine lv_topi (fun v_30 ev_30 => ?_)
    obtain rfl : v_30 = 0 := ev_30.trans (hz _)
    refine lv_if_eq (tgt := 299) X.1 X.2.1 dX12_count_292 (by decide) (fun c_292 => ?_) (fun c_292 => absurd c_292 (by decide))
    refine lv_iconst (v := 0) X.1 X.2.1 dX12_count_299 (by decide) ?_
    refine lv_iadd X.1 X.2.1 dX12_count_300 ?_
    refine lv_topi (fun v_31 ev_31 => ?_)
    obtain rfl : v_31 = 0 := ev_31.trans (by decide +kernel)
    refine lv_istore_n (lv' := [(2, .int 0), (3, .int 12), (0, .ref mo), (1, .int (a1))]) X.1 X.2.1 dX12_count_301 rfl hl (by decide) rfl (fun ls hl => ?_)
    refine lv_iinc (v := 13) (lv' := [(3, .int 13), (2, .int 0), (0, .ref mo), (1, .int (a1))]) X.1 X.2.1 dX12_count_302 hl (k := 1) rfl (by decide) (by decide) rfl (fun ls hl => ?_)
    refine lv_goto (tgt := 279) X.1 X.2.1 dX12_count_305 (by decide) ?_
    refine lv_iload_n X.1 X.2.1 dX12_count_279 rfl (lv_at hl 0 rfl) ?_
    refine lv_bipush (v := 16) X.1 X.2.1 dX12_count_280 (by decide) ?_
    refine lv_icmp_ge (tgt := 308) X.1 X.2.1 dX12_count_282 (by decide) (fun c_282 => absurd c_282 (by decide)) (fun c_282 => ?_)
    refine lv_iload_n X.1 X.2.1 dX12_count_285 rfl (lv_at hl 1 rfl) ?_
    refine lv_aload_n X.1 X.2.1 dX12_count_286 rfl (lv_at hl 2 rfl) ?_
    refine r_getR (g := 1253) X hw hat_mo 53 rf_q1253 (by decide) rfl inn_X12_count_12 (by decide) (X.2.2.2.1 (.fieldLink RX12 125 "SilkMillModel" "isLaid" "[Z") (by decide +kernel)) rfl (gv_1253 _ _) dX12_count_287 ?_
    refine lv_iload_n X.1 X.2.1 dX12_count_290 rfl (lv_at hl 0 rfl) ?_
    refine r_zald X hw hat_q1253 (by rw [ln_q1253]; exact vp_in_iff.mpr (by decide +kernel)) dX12_count_291 ?_
    refine lv_topi (fun v_32 ev_32 => ?_)
    obtain rfl : v_32 = 0 := ev_32.trans (hz _)
    refine lv_if_eq (tgt := 299) X.1 X.2.1 dX12_count_292 (by decide) (fun c_292 => ?_) (fun c_292 => absurd c_292 (by decide))
    refine lv_iconst (v := 0) X.1 X.2.1 dX12_count_299 (by decide) ?_
    refine lv_iadd X.1 X.2.1 dX12_count_300 ?_
    refine lv_topi (fun v_33 ev_33 => ?_)
    obtain rfl : v_33 = 0 := ev_33.trans (by decide +kernel)
    refine lv_istore_n (lv' := [(2, .int 0), (3, .int 13), (0, .ref mo), (1, .int (a1))]) X.1 X.2.1 dX12_count_301 rfl hl (by decide) rfl (fun ls hl => ?_)
    refine lv_iinc (v := 14) (lv' := [(3, .int 14), (2, .int 0), (0, .ref mo), (1, .int (a1))]) X.1 X.2.1 dX12_count_302 hl (k := 1) rfl (by decide) (by decide) rfl (fun ls hl => ?_)
    refine lv_goto (tgt := 279) X.1 X.2.1 dX12_count_305 (by decide) ?_
    refine lv_iload_n X.1 X.2.1 dX12_count_279 rfl (lv_at hl 0 rfl) ?_
    refine lv_bipush (v := 16) X.1 X.2.1 dX12_count_280 (by decide) ?_
    refine lv_icmp_ge (tgt := 308) X.1 X.2.1 dX12_count_282 (by decide) (fun c_282 => absurd c_282 (by decide)) (fun c_282 => ?_)
    refine lv_iload_n X.1 X.2.1 dX12_count_285 rfl (lv_at hl 1 rfl) ?_
    refine lv_aload_n X.1 X.2.1 dX12_count_286 rfl (lv_at hl 2 rfl) ?_
    refine r_getR (g := 1253) X hw hat_mo 53 rf_q1253 (by decide) rfl inn_X12_count_12 (by decide) (X.2.2.2.1 (.fieldLink RX12 125 "SilkMillModel" "isLaid" "[Z") (by decide +kernel)) rfl (gv_1253 _ _) dX12_count_287 ?_
    refine lv_iload_n X.1 X.2.1 dX12_count_290 rfl (lv_at hl 0 rfl) ?_
    refine r_zald X hw hat_q1253 (by rw [ln_q1253]; exact vp_in_iff.mpr (by decide +kernel)) dX12_count_291 ?_
    refine lv_topi (fun v_34 ev_34 => ?_)
    obtain rfl : v_34 = 0 := ev_34.trans (hz _)
    refine lv_if_eq (tgt := 299) X.1 X.2.1 dX12_count_292 (by decide) (fun c_292 => ?_) (fun c_292 => absurd c_292 (by decide))
    refine lv_iconst (v := 0) X.1 X.2.1 dX12_count_299 (by decide) ?_
    refine lv_iadd X.1 X.2.1 dX12_count_300 ?_
    refine lv_topi (fun v_35 ev_35 => ?_)
    obtain rfl : v_35 = 0 := ev_35.trans (by decide +kernel)
    refine lv_istore_n (lv' := [(2, .int 0), (3, .int 14), (0, .ref mo), (1, .int (a1))]) X.1 X.2.1 dX12_count_301 rfl hl (by decide) rfl (fun ls hl => ?_)
    refine lv_iinc (v := 15) (lv' := [(3, .int 15), (2, .int 0), (0, .ref mo), (1, .int (a1))]) X.1 X.2.1 dX12_count_302 hl (k := 1) rfl (by decide) (by decide) rfl (fun ls hl => ?_)
    refine lv_goto (tgt := 279) X.1 X.2.1 dX12_count_305 (by decide) ?_
    refine lv_iload_n X.1 X.2.1 dX12_count_279 rfl (lv_at hl 0 rfl) ?_
    refine lv_bipush (v := 16) X.1 X.2.1 dX12_count_280 (by decide) ?_
    refine lv_icmp_ge (tgt := 308) X.1 X.2.1 dX12_count_282 (by decide) (fun c_282 => absurd c_282 (by decide)) (fun c_282 => ?_)
    refine lv_iload_n X.1 X.2.1 dX12_count_285 rfl (lv_at hl 1 rfl) ?_
    refine lv_aload_n X.1 X.2.1 dX12_count_286 rfl (lv_at hl 2 rfl) ?_
    refine r_getR (g := 1253) X hw hat_mo 53 rf_q1253 (by decide) rfl inn_X12_count_12 (by decide) (X.2.2.2.1 (.fieldLink RX12 125 "SilkMillModel" "isLaid" "[Z") (by decide +kernel)) rfl (gv_1253 _ _) dX12_count_287 ?_
    refine lv_iload_n X.1 X.2.1 dX12_count_290 rfl (lv_at hl 0 rfl) ?_
    refine r_zald X hw hat_q1253 (by rw [ln_q1253]; exact vp_in_iff.mpr (by decide +kernel)) dX12_count_291 ?_
    refine lv_topi (fun v_36 ev_36 => ?_)
    obtain rfl : v_36 = 0 := ev_36.trans (hz _)
    refine lv_if_eq (tgt := 299) X.1 X.2.1 dX12_count_292 (by decide) (fun c_292 => ?_) (fun c_292 => absurd c_292 (by decide))
    refine lv_iconst (v := 0) X.1 X.2.1 dX12_count_299 (by decide) ?_
    refine lv_iadd X.1 X.2.1 dX12_count_300 ?_
    refine lv_topi (fun v_37 ev_37 => ?_)
    obtain rfl : v_37 = 0 := ev_37.trans (by decide +kernel)
    refine lv_istore_n (lv' := [(2, .int 0), (3, .int 15), (0, .ref mo), (1, .int (a1))]) X.1 X.2.1 dX12_count_301 rfl hl (by decide) rfl (fun ls hl => ?_)
    refine lv_iinc (v := 16) (lv' := [(3, .int 16), (2, .int 0), (0, .ref mo), (1, .int (a1))]) X.1 X.2.1 dX12_count_302 hl (k := 1) rfl (by decide) (by decide) rfl (fun ls hl => ?_)
    refine lv_goto (tgt := 279) X.1 X.2.1 dX12_count_305 (by decide) ?_
    refine lv_iload_n X.1 X.2.1 dX12_count_279 rfl (lv_at hl 0 rfl) ?_
    refine lv_bipush (v := 16) X.1 X.2.1 dX12_count_280 (by decide) ?_
    refine lv_icmp_ge (tgt := 308) X.1 X.2.1 dX12_count_282 (by decide) (fun c_282 => ?_) (fun c_282 => absurd c_282 (by decide))
    refine lv_iload_n X.1 X.2.1 dX12_count_308 rfl (lv_at hl 1 rfl) ?_
    exact ret_i X hw hr hlocks (Nat.le_of_ble_eq_true rfl) (Nat.le_of_ble_eq_true rfl) (by unfold cntV; first | rw [if_pos (by omega)] | rw [if_neg (by omega)]) dX12_count_309
end
section
theorem dX12_feed_0 : decode cX12_feed 0 = .ok (.aload_n 0, 1) := by decide +kernel
theorem dX12_feed_1 : decode cX12_feed 1 = .ok (.iconst 0, 1) := by decide +kernel
theorem dX12_feed_2 : decode cX12_feed 2 = .ok (.putfield 161, 3) := by decide +kernel
theorem dX12_feed_5 : decode cX12_feed 5 = .ok (.aload_n 0, 1) := by decide +kernel
theorem dX12_feed_6 : decode cX12_feed 6 = .ok (.getfield 211, 3) := by decide +kernel
theorem dX12_feed_9 : decode cX12_feed 9 = .ok (.sipush 380, 3) := by decide +kernel
theorem dX12_feed_12 : decode cX12_feed 12 = .ok (.if_icmp .le 5, 3) := by decide +kernel
theorem dX12_feed_17 : decode cX12_feed 17 = .ok (.iconst 0, 1) := by decide +kernel
theorem dX12_feed_18 : decode cX12_feed 18 = .ok (.istore 6, 2) := by decide +kernel
theorem dX12_feed_20 : decode cX12_feed 20 = .ok (.iload 6, 2) := by decide +kernel
theorem dX12_feed_22 : decode cX12_feed 22 = .ok (.bipush 20, 2) := by decide +kernel
theorem dX12_feed_24 : decode cX12_feed 24 = .ok (.if_icmp .ge 90, 3) := by decide +kernel
theorem dX12_feed_27 : decode cX12_feed 27 = .ok (.iload 6, 2) := by decide +kernel
theorem dX12_feed_29 : decode cX12_feed 29 = .ok (.iconst 4, 1) := by decide +kernel
theorem dX12_feed_30 : decode cX12_feed 30 = .ok (.if_icmp .ge 7, 3) := by decide +kernel
theorem dX12_feed_33 : decode cX12_feed 33 = .ok (.iload_n 1, 1) := by decide +kernel
theorem dX12_feed_34 : decode cX12_feed 34 = .ok (.goto 39, 3) := by decide +kernel
theorem dX12_feed_37 : decode cX12_feed 37 = .ok (.iload 6, 2) := by decide +kernel
theorem dX12_feed_39 : decode cX12_feed 39 = .ok (.bipush 8, 2) := by decide +kernel
theorem dX12_feed_41 : decode cX12_feed 41 = .ok (.if_icmp .ge 7, 3) := by decide +kernel
theorem dX12_feed_44 : decode cX12_feed 44 = .ok (.iload_n 2, 1) := by decide +kernel
theorem dX12_feed_45 : decode cX12_feed 45 = .ok (.goto 28, 3) := by decide +kernel
theorem dX12_feed_48 : decode cX12_feed 48 = .ok (.iload 6, 2) := by decide +kernel
theorem dX12_feed_50 : decode cX12_feed 50 = .ok (.bipush 12, 2) := by decide +kernel
theorem dX12_feed_52 : decode cX12_feed 52 = .ok (.if_icmp .ge 7, 3) := by decide +kernel
theorem dX12_feed_55 : decode cX12_feed 55 = .ok (.iload_n 3, 1) := by decide +kernel
theorem dX12_feed_56 : decode cX12_feed 56 = .ok (.goto 17, 3) := by decide +kernel
theorem dX12_feed_59 : decode cX12_feed 59 = .ok (.iload 6, 2) := by decide +kernel
theorem dX12_feed_61 : decode cX12_feed 61 = .ok (.bipush 16, 2) := by decide +kernel
theorem dX12_feed_63 : decode cX12_feed 63 = .ok (.if_icmp .ge 8, 3) := by decide +kernel
theorem dX12_feed_66 : decode cX12_feed 66 = .ok (.iload 4, 2) := by decide +kernel
theorem dX12_feed_68 : decode cX12_feed 68 = .ok (.goto 5, 3) := by decide +kernel
theorem dX12_feed_71 : decode cX12_feed 71 = .ok (.iload 5, 2) := by decide +kernel
theorem dX12_feed_73 : decode cX12_feed 73 = .ok (.istore 7, 2) := by decide +kernel
theorem dX12_feed_75 : decode cX12_feed 75 = .ok (.aload_n 0, 1) := by decide +kernel
theorem dX12_feed_76 : decode cX12_feed 76 = .ok (.getfield 82, 3) := by decide +kernel
theorem dX12_feed_79 : decode cX12_feed 79 = .ok (.aload_n 0, 1) := by decide +kernel
theorem dX12_feed_80 : decode cX12_feed 80 = .ok (.getfield 211, 3) := by decide +kernel
theorem dX12_feed_83 : decode cX12_feed 83 = .ok (.iload 7, 2) := by decide +kernel
theorem dX12_feed_85 : decode cX12_feed 85 = .ok (.bipush 24, 2) := by decide +kernel
theorem dX12_feed_87 : decode cX12_feed 87 = .ok (.bipush 8, 2) := by decide +kernel
theorem dX12_feed_89 : decode cX12_feed 89 = .ok (.iload 6, 2) := by decide +kernel
theorem dX12_feed_91 : decode cX12_feed 91 = .ok (.iconst 4, 1) := by decide +kernel
theorem dX12_feed_92 : decode cX12_feed 92 = .ok (.irem, 1) := by decide +kernel
theorem dX12_feed_93 : decode cX12_feed 93 = .ok (.imul, 1) := by decide +kernel
theorem dX12_feed_94 : decode cX12_feed 94 = .ok (.isub, 1) := by decide +kernel
theorem dX12_feed_95 : decode cX12_feed 95 = .ok (.ishr, 1) := by decide +kernel
theorem dX12_feed_96 : decode cX12_feed 96 = .ok (.i2b, 1) := by decide +kernel
theorem dX12_feed_97 : decode cX12_feed 97 = .ok (.bastore, 1) := by decide +kernel
theorem dX12_feed_98 : decode cX12_feed 98 = .ok (.aload_n 0, 1) := by decide +kernel
theorem dX12_feed_99 : decode cX12_feed 99 = .ok (.dup, 1) := by decide +kernel
theorem dX12_feed_100 : decode cX12_feed 100 = .ok (.getfield 211, 3) := by decide +kernel
theorem dX12_feed_103 : decode cX12_feed 103 = .ok (.iconst 1, 1) := by decide +kernel
theorem dX12_feed_104 : decode cX12_feed 104 = .ok (.iadd, 1) := by decide +kernel
theorem dX12_feed_105 : decode cX12_feed 105 = .ok (.putfield 211, 3) := by decide +kernel
theorem dX12_feed_108 : decode cX12_feed 108 = .ok (.iinc 6 1, 3) := by decide +kernel
theorem dX12_feed_111 : decode cX12_feed 111 = .ok (.goto (-91), 3) := by decide +kernel
theorem dX12_feed_114 : decode cX12_feed 114 = .ok (.aload_n 0, 1) := by decide +kernel
theorem dX12_feed_115 : decode cX12_feed 115 = .ok (.getfield 211, 3) := by decide +kernel
theorem dX12_feed_118 : decode cX12_feed 118 = .ok (.ireturn, 1) := by decide +kernel
theorem inn_X12_feed_12 : ∀ w ∈ u_ws RX12 TX12 66, w ∈ wsX12_feed := fun w h => List.mem_cons_of_mem _ (List.mem_append_right _ h)
end
section
set_option maxHeartbeats 4000000 in
set_option maxRecDepth 100000 in
theorem c_X12_feed (l : Launch) (G : va_G) (cy : Nat → ClassId) (S : PS) (sz : Nat) (mo : Nat) (a1 : Int32) (a2 : Int32) (a3 : Int32) (a4 : Int32) (a5 : Int32) (hF : FM S mo) : Ci l yX12_feed wsX12_feed ({ frames := 5, cells := 0, slots := 0, locals := 200 }) G cy S sz [.ref mo, .int (a1), .int (a2), .int (a3), .int (a4), .int (a5)] (fun (r : Int32) (S9 : PS) => r = 20) := by
  refine ent_m (cc := cX12_feed) (maxL := 8) (ret := (some .int)) (by decide) rfl (Nat.le_of_ble_eq_true rfl) ?_
  intro p e s m below meth c ls X hr hlocks hin hw hl hsz
  subst hsz
  have X : Cx p c cX12_feed 8 s [.ref mo, .int (a1), .int (a2), .int (a3), .int (a4), .int (a5)].toArray wsX12_feed RX12 m G cy (AS S s.heap.size) := X
  have hl : lv_has ls 8 [(0, .ref mo), (1, .int (a1)), (2, .int (a2)), (3, .int (a3)), (4, .int (a4)), (5, .int (a5))] := hl
  obtain ⟨hat_mo, hci, ci_1229, hars, hz53, hz39⟩ := hF
  have ci_1228 := hci 1228 (by decide)
  obtain ⟨q1227, rf_q1227, hat_q1227, ln_q1227⟩ := hars (1227, 13, 400) (by decide +kernel)
  have rf_q1227 : pR S 1227 mo = some q1227 := rf_q1227
  have hat_q1227 : At S q1227 13 := hat_q1227
  have ln_q1227 : pN S q1227 = 400 := ln_q1227
  refine lv_aload_n X.1 X.2.1 dX12_feed_0 rfl (lv_at hl 0 rfl) ?_
  refine lv_iconst (v := 0) X.1 X.2.1 dX12_feed_1 (by decide) ?_
  refine r_putI (v := 0) X hw hat_mo 0 1200 tyX12 (by decide) rfl inn_X12_feed_12 tyX12_ok nmX12 (by decide) (X.2.2.2.1 (.fieldLink RX12 161 "SilkMillModel" "thrown" "I") (by decide +kernel)) rfl (Or.inl rfl) rfl rfl (Nat.le_of_ble_eq_true rfl) (st_1200 _ _) dX12_feed_2 (fun H locs hw => ?_)
  generalize eS_1 : sI S 1200 mo 0 = S_1 at hw
  have hat_mo : At S_1 mo 12 := by rw [← eS_1]; exact At_sI hat_mo
  have hat_q1227 : At S_1 q1227 13 := by rw [← eS_1]; exact At_sI hat_q1227
  have rf_q1227 : pR S_1 1227 mo = some q1227 := by rw [← eS_1, pR_sI]; exact rf_q1227
  have ci_1228 : pI S_1 1228 mo = 0 := by rw [← eS_1]; exact (pI_sI_nf (by decide)).trans ci_1228
  have ln_q1227 : pN S_1 q1227 = 400 := by rw [← eS_1, pN_sI]; exact ln_q1227
  have hc_2 : pI S_1 1200 mo = 0 := by rw [← eS_1]; exact pI_sI_same
  refine lv_aload_n X.1 X.2.1 dX12_feed_5 rfl (lv_at hl 0 rfl) ?_
  refine r_get (v := .int 0) X hw hat_mo 28 (by decide) rfl inn_X12_feed_12 (by decide) (X.2.2.2.1 (.fieldLink RX12 211 "SilkMillModel" "taped" "I") (by decide +kernel)) rfl ((gv_1228 _ _).trans (congrArg (fun z => some (Value.int z)) ci_1228)) dX12_feed_6 ?_
  refine lv_sipush (v := 380) X.1 X.2.1 dX12_feed_9 (by decide) ?_
  refine lv_icmp_le (tgt := 17) X.1 X.2.1 dX12_feed_12 (by decide) (fun c_12 => ?_) (fun c_12 => absurd c_12 (by decide))
  refine lv_iconst (v := 0) X.1 X.2.1 dX12_feed_17 (by decide) ?_
  refine lv_istore (lv' := [(6, .int 0), (0, .ref mo), (1, .int (a1)), (2, .int (a2)), (3, .int (a3)), (4, .int (a4)), (5, .int (a5))]) X.1 X.2.1 dX12_feed_18 hl (by decide) rfl (fun ls hl => ?_)
  have loop : ∀ (d i : Nat) (T : PS) (H : Heap) (locs : List Loc) (ls : Array Slot), i + d = 20 → At T mo 12 → pR T 1227 mo = some q1227 → At T q1227 13 → pN T q1227 = 400 → pI T 1228 mo = nI i → Wd G cy (AS S s.heap.size) s.heap T H locs → lv_has ls 8 [(6, .int (nI i)), (0, .ref mo), (1, .int (a1)), (2, .int (a2)), (3, .int (a3)), (4, .int (a4)), (5, .int (a5))] → W p l e ({ frames := 5, cells := 0, slots := 0, locals := 200 }) s m [.ref mo, .int (a1), .int (a2), .int (a3), .int (a4), .int (a5)].toArray below meth c H locs 0 0 (MQ below (va_Qi (fun (r : Int32) (S9 : PS) => r = 20) (Bw G cy S s.heap.size) (AS S s.heap.size)) [.ref mo, .int (a1), .int (a2), .int (a3), .int (a4), .int (a5)].toArray s 0 0 (AS S s.heap.size)) (F0 m 20 ls []) := by
    intro d
    induction d with
    | zero =>
      intro i T H locs ls hi hat_mo rf_q1227 hat_q1227 ln_q1227 ci_1228 hw hl
      obtain rfl : i = 20 := by omega
      refine lv_iload X.1 X.2.1 dX12_feed_20 (lv_at hl 0 rfl) ?_
      refine lv_bipush (v := 20) X.1 X.2.1 dX12_feed_22 (by decide) ?_
      refine lv_icmp_ge (tgt := 114) X.1 X.2.1 dX12_feed_24 (by decide) (fun c_24 => ?_) (fun c_24 => absurd (by decide +kernel) c_24)
      refine lv_aload_n X.1 X.2.1 dX12_feed_114 rfl (lv_at hl 1 rfl) ?_
      refine r_get (v := .int (nI 20)) X hw hat_mo 28 (by decide) rfl inn_X12_feed_12 (by decide) (X.2.2.2.1 (.fieldLink RX12 211 "SilkMillModel" "taped" "I") (by decide +kernel)) rfl ((gv_1228 _ _).trans (congrArg (fun z => some (Value.int z)) ci_1228)) dX12_feed_115 ?_
      exact ret_i X hw hr hlocks (Nat.le_of_ble_eq_true rfl) (Nat.le_of_ble_eq_true rfl) (by decide +kernel) dX12_feed_118
    | succ d ih =>
      intro i T H locs ls hi hat_mo rf_q1227 hat_q1227 ln_q1227 ci_1228 hw hl
      refine lv_iload X.1 X.2.1 dX12_feed_20 (lv_at hl 0 rfl) ?_
      refine lv_bipush (v := 20) X.1 X.2.1 dX12_feed_22 (by decide) ?_
      refine lv_icmp_ge (tgt := 114) X.1 X.2.1 dX12_feed_24 (by decide) (fun c_24 => absurd c_24 (nI_ge (a := i) (b := 20) (by omega) (by omega))) (fun c_24 => ?_)
      refine lv_iload X.1 X.2.1 dX12_feed_27 (lv_at hl 0 rfl) ?_
      refine lv_iconst (v := 4) X.1 X.2.1 dX12_feed_29 (by decide) ?_
      refine lv_icmp_ge (tgt := 37) X.1 X.2.1 dX12_feed_30 (by decide) (fun c_30 => ?_) (fun c_30 => ?_)
      · have z_30 := trivial
        refine lv_iload X.1 X.2.1 dX12_feed_37 (lv_at hl 0 rfl) ?_
        refine lv_bipush (v := 8) X.1 X.2.1 dX12_feed_39 (by decide) ?_
        refine lv_icmp_ge (tgt := 48) X.1 X.2.1 dX12_feed_41 (by decide) (fun c_41 => ?_) (fun c_41 => ?_)
        · have z_41 := trivial
          refine lv_iload X.1 X.2.1 dX12_feed_48 (lv_at hl 0 rfl) ?_
          refine lv_bipush (v := 12) X.1 X.2.1 dX12_feed_50 (by decide) ?_
          refine lv_icmp_ge (tgt := 59) X.1 X.2.1 dX12_feed_52 (by decide) (fun c_52 => ?_) (fun c_52 => ?_)
          · have z_52 := trivial
            refine lv_iload X.1 X.2.1 dX12_feed_59 (lv_at hl 0 rfl) ?_
            refine lv_bipush (v := 16) X.1 X.2.1 dX12_feed_61 (by decide) ?_
            refine lv_icmp_ge (tgt := 71) X.1 X.2.1 dX12_feed_63 (by decide) (fun c_63 => ?_) (fun c_63 => ?_)
            · have z_63 := trivial
              refine lv_iload X.1 X.2.1 dX12_feed_71 (lv_at hl 6 rfl) ?_
              refine lv_istore (lv' := [(7, .int (a5)), (6, .int (nI i)), (0, .ref mo), (1, .int (a1)), (2, .int (a2)), (3, .int (a3)), (4, .int (a4)), (5, .int (a5))]) X.1 X.2.1 dX12_feed_73 hl (by decide) rfl (fun ls hl => ?_)
              refine lv_aload_n X.1 X.2.1 dX12_feed_75 rfl (lv_at hl 2 rfl) ?_
              refine r_getR (g := 1227) X hw hat_mo 27 rf_q1227 (by decide) rfl inn_X12_feed_12 (by decide) (X.2.2.2.1 (.fieldLink RX12 82 "SilkMillModel" "tape" "[B") (by decide +kernel)) rfl (gv_1227 _ _) dX12_feed_76 ?_
              refine lv_aload_n X.1 X.2.1 dX12_feed_79 rfl (lv_at hl 2 rfl) ?_
              refine r_get (v := .int (nI i)) X hw hat_mo 28 (by decide) rfl inn_X12_feed_12 (by decide) (X.2.2.2.1 (.fieldLink RX12 211 "SilkMillModel" "taped" "I") (by decide +kernel)) rfl ((gv_1228 _ _).trans (congrArg (fun z => some (Value.int z)) ci_1228)) dX12_feed_80 ?_
              refine lv_iload X.1 X.2.1 dX12_feed_83 (lv_at hl 0 rfl) ?_
              refine lv_bipush (v := 24) X.1 X.2.1 dX12_feed_85 (by decide) ?_
              refine lv_bipush (v := 8) X.1 X.2.1 dX12_feed_87 (by decide) ?_
              refine lv_iload X.1 X.2.1 dX12_feed_89 (lv_at hl 1 rfl) ?_
              refine lv_iconst (v := 4) X.1 X.2.1 dX12_feed_91 (by decide) ?_
              refine lv_irem X.1 X.2.1 dX12_feed_92 (by decide) ?_
              refine lv_topi (fun v_3 ev_3 => ?_)
              refine lv_imul X.1 X.2.1 dX12_feed_93 ?_
              refine lv_topi (fun v_4 ev_4 => ?_)
              refine lv_isub X.1 X.2.1 dX12_feed_94 ?_
              refine lv_topi (fun v_5 ev_5 => ?_)
              refine lv_ishr X.1 X.2.1 dX12_feed_95 ?_
              refine lv_topi (fun v_6 ev_6 => ?_)
              refine lv_i2b X.1 X.2.1 dX12_feed_96 rfl ?_
              refine lv_topi (fun v_7 ev_7 => ?_)
              refine r_bast X hw hat_q1227 (by rw [ln_q1227]; exact vp_in_nI (by omega) (by omega)) dX12_feed_97 (fun H locs hw => ?_)
              generalize eS_8 : sA T q1227 (upd (pA T q1227) (Int32.toNatClampNeg (nI i)) (vp_nar .byte v_7)) = S_8 at hw
              have hat_mo : At S_8 mo 12 := by rw [← eS_8]; exact At_sA hat_mo
              have hat_q1227 : At S_8 q1227 13 := by rw [← eS_8]; exact At_sA hat_q1227
              have rf_q1227 : pR S_8 1227 mo = some q1227 := by rw [← eS_8, pR_sA]; exact rf_q1227
              have ci_1228 : pI S_8 1228 mo = nI i := by rw [← eS_8, pI_sA]; exact ci_1228
              have ln_q1227 : pN S_8 q1227 = 400 := by rw [← eS_8, pN_sA]; exact ln_q1227
              refine lv_aload_n X.1 X.2.1 dX12_feed_98 rfl (lv_at hl 2 rfl) ?_
              refine lv_dup X.1 X.2.1 dX12_feed_99 rfl ?_
              refine r_get (v := .int (nI i)) X hw hat_mo 28 (by decide) rfl inn_X12_feed_12 (by decide) (X.2.2.2.1 (.fieldLink RX12 211 "SilkMillModel" "taped" "I") (by decide +kernel)) rfl ((gv_1228 _ _).trans (congrArg (fun z => some (Value.int z)) ci_1228)) dX12_feed_100 ?_
              refine lv_iconst (v := 1) X.1 X.2.1 dX12_feed_103 (by decide) ?_
              refine lv_iadd X.1 X.2.1 dX12_feed_104 ?_
              refine lv_topi (fun v_9 ev_9 => ?_)
              refine r_putI (v := v_9) X hw hat_mo 28 1228 tyX12 (by decide) rfl inn_X12_feed_12 tyX12_ok nmX12 (by decide) (X.2.2.2.1 (.fieldLink RX12 211 "SilkMillModel" "taped" "I") (by decide +kernel)) rfl (Or.inl rfl) rfl rfl (Nat.le_of_ble_eq_true rfl) (st_1228 _ _) dX12_feed_105 (fun H locs hw => ?_)
              generalize eS_10 : sI S_8 1228 mo v_9 = S_10 at hw
              have hat_mo : At S_10 mo 12 := by rw [← eS_10]; exact At_sI hat_mo
              have hat_q1227 : At S_10 q1227 13 := by rw [← eS_10]; exact At_sI hat_q1227
              have rf_q1227 : pR S_10 1227 mo = some q1227 := by rw [← eS_10, pR_sI]; exact rf_q1227
              have ln_q1227 : pN S_10 q1227 = 400 := by rw [← eS_10, pN_sI]; exact ln_q1227
              have hc_11 : pI S_10 1228 mo = v_9 := by rw [← eS_10]; exact pI_sI_same
              obtain ⟨x_12, ex_12⟩ : ∃ y : Int32, y = nI i + 1 := ⟨_, rfl⟩
              refine lv_iinc (v := x_12) (lv' := [(6, .int (x_12)), (7, .int (a5)), (0, .ref mo), (1, .int (a1)), (2, .int (a2)), (3, .int (a3)), (4, .int (a4)), (5, .int (a5))]) X.1 X.2.1 dX12_feed_108 hl (k := 1) rfl (by rw [ex_12]; rfl) (by decide) rfl (fun ls hl => ?_)
              refine lv_goto (tgt := 20) X.1 X.2.1 dX12_feed_111 (by decide) ?_
              exact ih (i + 1) _ _ _ _ (by omega) hat_mo rf_q1227 hat_q1227 ln_q1227 (hc_11.trans (ev_9.trans (nI_1 i))) hw (by rw [show nI (i + 1) = x_12 from by rw [ex_12]; exact (nI_1 i).symm]; exact lv_sub hl [0, 2, 3, 4, 5, 6, 7] rfl)
            · have z_63 := trivial
              refine lv_iload X.1 X.2.1 dX12_feed_66 (lv_at hl 5 rfl) ?_
              refine lv_goto (tgt := 73) X.1 X.2.1 dX12_feed_68 (by decide) ?_
              refine lv_istore (lv' := [(7, .int (a4)), (6, .int (nI i)), (0, .ref mo), (1, .int (a1)), (2, .int (a2)), (3, .int (a3)), (4, .int (a4)), (5, .int (a5))]) X.1 X.2.1 dX12_feed_73 hl (by decide) rfl (fun ls hl => ?_)
              refine lv_aload_n X.1 X.2.1 dX12_feed_75 rfl (lv_at hl 2 rfl) ?_
              refine r_getR (g := 1227) X hw hat_mo 27 rf_q1227 (by decide) rfl inn_X12_feed_12 (by decide) (X.2.2.2.1 (.fieldLink RX12 82 "SilkMillModel" "tape" "[B") (by decide +kernel)) rfl (gv_1227 _ _) dX12_feed_76 ?_
              refine lv_aload_n X.1 X.2.1 dX12_feed_79 rfl (lv_at hl 2 rfl) ?_
              refine r_get (v := .int (nI i)) X hw hat_mo 28 (by decide) rfl inn_X12_feed_12 (by decide) (X.2.2.2.1 (.fieldLink RX12 211 "SilkMillModel" "taped" "I") (by decide +kernel)) rfl ((gv_1228 _ _).trans (congrArg (fun z => some (Value.int z)) ci_1228)) dX12_feed_80 ?_
              refine lv_iload X.1 X.2.1 dX12_feed_83 (lv_at hl 0 rfl) ?_
              refine lv_bipush (v := 24) X.1 X.2.1 dX12_feed_85 (by decide) ?_
              refine lv_bipush (v := 8) X.1 X.2.1 dX12_feed_87 (by decide) ?_
              refine lv_iload X.1 X.2.1 dX12_feed_89 (lv_at hl 1 rfl) ?_
              refine lv_iconst (v := 4) X.1 X.2.1 dX12_feed_91 (by decide) ?_
              refine lv_irem X.1 X.2.1 dX12_feed_92 (by decide) ?_
              refine lv_topi (fun v_13 ev_13 => ?_)
              refine lv_imul X.1 X.2.1 dX12_feed_93 ?_
              refine lv_topi (fun v_14 ev_14 => ?_)
              refine lv_isub X.1 X.2.1 dX12_feed_94 ?_
              refine lv_topi (fun v_15 ev_15 => ?_)
              refine lv_ishr X.1 X.2.1 dX12_feed_95 ?_
              refine lv_topi (fun v_16 ev_16 => ?_)
              refine lv_i2b X.1 X.2.1 dX12_feed_96 rfl ?_
              refine lv_topi (fun v_17 ev_17 => ?_)
              refine r_bast X hw hat_q1227 (by rw [ln_q1227]; exact vp_in_nI (by omega) (by omega)) dX12_feed_97 (fun H locs hw => ?_)
              generalize eS_18 : sA T q1227 (upd (pA T q1227) (Int32.toNatClampNeg (nI i)) (vp_nar .byte v_17)) = S_18 at hw
              have hat_mo : At S_18 mo 12 := by rw [← eS_18]; exact At_sA hat_mo
              have hat_q1227 : At S_18 q1227 13 := by rw [← eS_18]; exact At_sA hat_q1227
              have rf_q1227 : pR S_18 1227 mo = some q1227 := by rw [← eS_18, pR_sA]; exact rf_q1227
              have ci_1228 : pI S_18 1228 mo = nI i := by rw [← eS_18, pI_sA]; exact ci_1228
              have ln_q1227 : pN S_18 q1227 = 400 := by rw [← eS_18, pN_sA]; exact ln_q1227
              refine lv_aload_n X.1 X.2.1 dX12_feed_98 rfl (lv_at hl 2 rfl) ?_
              refine lv_dup X.1 X.2.1 dX12_feed_99 rfl ?_
              refine r_get (v := .int (nI i)) X hw hat_mo 28 (by decide) rfl inn_X12_feed_12 (by decide) (X.2.2.2.1 (.fieldLink RX12 211 "SilkMillModel" "taped" "I") (by decide +kernel)) rfl ((gv_1228 _ _).trans (congrArg (fun z => some (Value.int z)) ci_1228)) dX12_feed_100 ?_
              refine lv_iconst (v := 1) X.1 X.2.1 dX12_feed_103 (by decide) ?_
              refine lv_iadd X.1 X.2.1 dX12_feed_104 ?_
              refine lv_topi (fun v_19 ev_19 => ?_)
              refine r_putI (v := v_19) X hw hat_mo 28 1228 tyX12 (by decide) rfl inn_X12_feed_12 tyX12_ok nmX12 (by decide) (X.2.2.2.1 (.fieldLink RX12 211 "SilkMillModel" "taped" "I") (by decide +kernel)) rfl (Or.inl rfl) rfl rfl (Nat.le_of_ble_eq_true rfl) (st_1228 _ _) dX12_feed_105 (fun H locs hw => ?_)
              generalize eS_20 : sI S_18 1228 mo v_19 = S_20 at hw
              have hat_mo : At S_20 mo 12 := by rw [← eS_20]; exact At_sI hat_mo
              have hat_q1227 : At S_20 q1227 13 := by rw [← eS_20]; exact At_sI hat_q1227
              have rf_q1227 : pR S_20 1227 mo = some q1227 := by rw [← eS_20, pR_sI]; exact rf_q1227
              have ln_q1227 : pN S_20 q1227 = 400 := by rw [← eS_20, pN_sI]; exact ln_q1227
              have hc_21 : pI S_20 1228 mo = v_19 := by rw [← eS_20]; exact pI_sI_same
              obtain ⟨x_22, ex_22⟩ : ∃ y : Int32, y = nI i + 1 := ⟨_, rfl⟩
              refine lv_iinc (v := x_22) (lv' := [(6, .int (x_22)), (7, .int (a4)), (0, .ref mo), (1, .int (a1)), (2, .int (a2)), (3, .int (a3)), (4, .int (a4)), (5, .int (a5))]) X.1 X.2.1 dX12_feed_108 hl (k := 1) rfl (by rw [ex_22]; rfl) (by decide) rfl (fun ls hl => ?_)
              refine lv_goto (tgt := 20) X.1 X.2.1 dX12_feed_111 (by decide) ?_
              exact ih (i + 1) _ _ _ _ (by omega) hat_mo rf_q1227 hat_q1227 ln_q1227 (hc_21.trans (ev_19.trans (nI_1 i))) hw (by rw [show nI (i + 1) = x_22 from by rw [ex_22]; exact (nI_1 i).symm]; exact lv_sub hl [0, 2, 3, 4, 5, 6, 7] rfl)
          · have z_52 := trivial
            refine lv_iload_n X.1 X.2.1 dX12_feed_55 rfl (lv_at hl 4 rfl) ?_
            refine lv_goto (tgt := 73) X.1 X.2.1 dX12_feed_56 (by decide) ?_
            refine lv_istore (lv' := [(7, .int (a3)), (6, .int (nI i)), (0, .ref mo), (1, .int (a1)), (2, .int (a2)), (3, .int (a3)), (4, .int (a4)), (5, .int (a5))]) X.1 X.2.1 dX12_feed_73 hl (by decide) rfl (fun ls hl => ?_)
            refine lv_aload_n X.1 X.2.1 dX12_feed_75 rfl (lv_at hl 2 rfl) ?_
            refine r_getR (g := 1227) X hw hat_mo 27 rf_q1227 (by decide) rfl inn_X12_feed_12 (by decide) (X.2.2.2.1 (.fieldLink RX12 82 "SilkMillModel" "tape" "[B") (by decide +kernel)) rfl (gv_1227 _ _) dX12_feed_76 ?_
            refine lv_aload_n X.1 X.2.1 dX12_feed_79 rfl (lv_at hl 2 rfl) ?_
            refine r_get (v := .int (nI i)) X hw hat_mo 28 (by decide) rfl inn_X12_feed_12 (by decide) (X.2.2.2.1 (.fieldLink RX12 211 "SilkMillModel" "taped" "I") (by decide +kernel)) rfl ((gv_1228 _ _).trans (congrArg (fun z => some (Value.int z)) ci_1228)) dX12_feed_80 ?_
            refine lv_iload X.1 X.2.1 dX12_feed_83 (lv_at hl 0 rfl) ?_
            refine lv_bipush (v := 24) X.1 X.2.1 dX12_feed_85 (by decide) ?_
            refine lv_bipush (v := 8) X.1 X.2.1 dX12_feed_87 (by decide) ?_
            refine lv_iload X.1 X.2.1 dX12_feed_89 (lv_at hl 1 rfl) ?_
            refine lv_iconst (v := 4) X.1 X.2.1 dX12_feed_91 (by decide) ?_
            refine lv_irem X.1 X.2.1 dX12_feed_92 (by decide) ?_
            refine lv_topi (fun v_23 ev_23 => ?_)
            refine lv_imul X.1 X.2.1 dX12_feed_93 ?_
            refine lv_topi (fun v_24 ev_24 => ?_)
            refine lv_isub X.1 X.2.1 dX12_feed_94 ?_
            refine lv_topi (fun v_25 ev_25 => ?_)
            refine lv_ishr X.1 X.2.1 dX12_feed_95 ?_
            refine lv_topi (fun v_26 ev_26 => ?_)
            refine lv_i2b X.1 X.2.1 dX12_feed_96 rfl ?_
            refine lv_topi (fun v_27 ev_27 => ?_)
            refine r_bast X hw hat_q1227 (by rw [ln_q1227]; exact vp_in_nI (by omega) (by omega)) dX12_feed_97 (fun H locs hw => ?_)
            generalize eS_28 : sA T q1227 (upd (pA T q1227) (Int32.toNatClampNeg (nI i)) (vp_nar .byte v_27)) = S_28 at hw
            have hat_mo : At S_28 mo 12 := by rw [← eS_28]; exact At_sA hat_mo
            have hat_q1227 : At S_28 q1227 13 := by rw [← eS_28]; exact At_sA hat_q1227
            have rf_q1227 : pR S_28 1227 mo = some q1227 := by rw [← eS_28, pR_sA]; exact rf_q1227
            have ci_1228 : pI S_28 1228 mo = nI i := by rw [← eS_28, pI_sA]; exact ci_1228
            have ln_q1227 : pN S_28 q1227 = 400 := by rw [← eS_28, pN_sA]; exact ln_q1227
            refine lv_aload_n X.1 X.2.1 dX12_feed_98 rfl (lv_at hl 2 rfl) ?_
            refine lv_dup X.1 X.2.1 dX12_feed_99 rfl ?_
            refine r_get (v := .int (nI i)) X hw hat_mo 28 (by decide) rfl inn_X12_feed_12 (by decide) (X.2.2.2.1 (.fieldLink RX12 211 "SilkMillModel" "taped" "I") (by decide +kernel)) rfl ((gv_1228 _ _).trans (congrArg (fun z => some (Value.int z)) ci_1228)) dX12_feed_100 ?_
            refine lv_iconst (v := 1) X.1 X.2.1 dX12_feed_103 (by decide) ?_
            refine lv_iadd X.1 X.2.1 dX12_feed_104 ?_
            refine lv_topi (fun v_29 ev_29 => ?_)
            refine r_putI (v := v_29) X hw hat_mo 28 1228 tyX12 (by decide) rfl inn_X12_feed_12 tyX12_ok nmX12 (by decide) (X.2.2.2.1 (.fieldLink RX12 211 "SilkMillModel" "taped" "I") (by decide +kernel)) rfl (Or.inl rfl) rfl rfl (Nat.le_of_ble_eq_true rfl) (st_1228 _ _) dX12_feed_105 (fun H locs hw => ?_)
            generalize eS_30 : sI S_28 1228 mo v_29 = S_30 at hw
            have hat_mo : At S_30 mo 12 := by rw [← eS_30]; exact At_sI hat_mo
            have hat_q1227 : At S_30 q1227 13 := by rw [← eS_30]; exact At_sI hat_q1227
            have rf_q1227 : pR S_30 1227 mo = some q1227 := by rw [← eS_30, pR_sI]; exact rf_q1227
            have ln_q1227 : pN S_30 q1227 = 400 := by rw [← eS_30, pN_sI]; exact ln_q1227
            have hc_31 : pI S_30 1228 mo = v_29 := by rw [← eS_30]; exact pI_sI_same
            obtain ⟨x_32, ex_32⟩ : ∃ y : Int32, y = nI i + 1 := ⟨_, rfl⟩
            refine lv_iinc (v := x_32) (lv' := [(6, .int (x_32)), (7, .int (a3)), (0, .ref mo), (1, .int (a1)), (2, .int (a2)), (3, .int (a3)), (4, .int (a4)), (5, .int (a5))]) X.1 X.2.1 dX12_feed_108 hl (k := 1) rfl (by rw [ex_32]; rfl) (by decide) rfl (fun ls hl => ?_)
            refine lv_goto (tgt := 20) X.1 X.2.1 dX12_feed_111 (by decide) ?_
            exact ih (i + 1) _ _ _ _ (by omega) hat_mo rf_q1227 hat_q1227 ln_q1227 (hc_31.trans (ev_29.trans (nI_1 i))) hw (by rw [show nI (i + 1) = x_32 from by rw [ex_32]; exact (nI_1 i).symm]; exact lv_sub hl [0, 2, 3, 4, 5, 6, 7] rfl)
        · have z_41 := trivial
          refine lv_iload_n X.1 X.2.1 dX12_feed_44 rfl (lv_at hl 3 rfl) ?_
          refine lv_goto (tgt := 73) X.1 X.2.1 dX12_feed_45 (by decide) ?_
          refine lv_istore (lv' := [(7, .int (a2)), (6, .int (nI i)), (0, .ref mo), (1, .int (a1)), (2, .int (a2)), (3, .int (a3)), (4, .int (a4)), (5, .int (a5))]) X.1 X.2.1 dX12_feed_73 hl (by decide) rfl (fun ls hl => ?_)
          refine lv_aload_n X.1 X.2.1 dX12_feed_75 rfl (lv_at hl 2 rfl) ?_
          refine r_getR (g := 1227) X hw hat_mo 27 rf_q1227 (by decide) rfl inn_X12_feed_12 (by decide) (X.2.2.2.1 (.fieldLink RX12 82 "SilkMillModel" "tape" "[B") (by decide +kernel)) rfl (gv_1227 _ _) dX12_feed_76 ?_
          refine lv_aload_n X.1 X.2.1 dX12_feed_79 rfl (lv_at hl 2 rfl) ?_
          refine r_get (v := .int (nI i)) X hw hat_mo 28 (by decide) rfl inn_X12_feed_12 (by decide) (X.2.2.2.1 (.fieldLink RX12 211 "SilkMillModel" "taped" "I") (by decide +kernel)) rfl ((gv_1228 _ _).trans (congrArg (fun z => some (Value.int z)) ci_1228)) dX12_feed_80 ?_
          refine lv_iload X.1 X.2.1 dX12_feed_83 (lv_at hl 0 rfl) ?_
          refine lv_bipush (v := 24) X.1 X.2.1 dX12_feed_85 (by decide) ?_
          refine lv_bipush (v := 8) X.1 X.2.1 dX12_feed_87 (by decide) ?_
          refine lv_iload X.1 X.2.1 dX12_feed_89 (lv_at hl 1 rfl) ?_
          refine lv_iconst (v := 4) X.1 X.2.1 dX12_feed_91 (by decide) ?_
          refine lv_irem X.1 X.2.1 dX12_feed_92 (by decide) ?_
          refine lv_topi (fun v_33 ev_33 => ?_)
          refine lv_imul X.1 X.2.1 dX12_feed_93 ?_
          refine lv_topi (fun v_34 ev_34 => ?_)
          refine lv_isub X.1 X.2.1 dX12_feed_94 ?_
          refine lv_topi (fun v_35 ev_35 => ?_)
          refine lv_ishr X.1 X.2.1 dX12_feed_95 ?_
          refine lv_topi (fun v_36 ev_36 => ?_)
          refine lv_i2b X.1 X.2.1 dX12_feed_96 rfl ?_
          refine lv_topi (fun v_37 ev_37 => ?_)
          refine r_bast X hw hat_q1227 (by rw [ln_q1227]; exact vp_in_nI (by omega) (by omega)) dX12_feed_97 (fun H locs hw => ?_)
          generalize eS_38 : sA T q1227 (upd (pA T q1227) (Int32.toNatClampNeg (nI i)) (vp_nar .byte v_37)) = S_38 at hw
          have hat_mo : At S_38 mo 12 := by rw [← eS_38]; exact At_sA hat_mo
          have hat_q1227 : At S_38 q1227 13 := by rw [← eS_38]; exact At_sA hat_q1227
          have rf_q1227 : pR S_38 1227 mo = some q1227 := by rw [← eS_38, pR_sA]; exact rf_q1227
          have ci_1228 : pI S_38 1228 mo = nI i := by rw [← eS_38, pI_sA]; exact ci_1228
          have ln_q1227 : pN S_38 q1227 = 400 := by rw [← eS_38, pN_sA]; exact ln_q1227
          refine lv_aload_n X.1 X.2.1 dX12_feed_98 rfl (lv_at hl 2 rfl) ?_
          refine lv_dup X.1 X.2.1 dX12_feed_99 rfl ?_
          refine r_get (v := .int (nI i)) X hw hat_mo 28 (by decide) rfl inn_X12_feed_12 (by decide) (X.2.2.2.1 (.fieldLink RX12 211 "SilkMillModel" "taped" "I") (by decide +kernel)) rfl ((gv_1228 _ _).trans (congrArg (fun z => some (Value.int z)) ci_1228)) dX12_feed_100 ?_
          refine lv_iconst (v := 1) X.1 X.2.1 dX12_feed_103 (by decide) ?_
          refine lv_iadd X.1 X.2.1 dX12_feed_104 ?_
          refine lv_topi (fun v_39 ev_39 => ?_)
          refine r_putI (v := v_39) X hw hat_mo 28 1228 tyX12 (by decide) rfl inn_X12_feed_12 tyX12_ok nmX12 (by decide) (X.2.2.2.1 (.fieldLink RX12 211 "SilkMillModel" "taped" "I") (by decide +kernel)) rfl (Or.inl rfl) rfl rfl (Nat.le_of_ble_eq_true rfl) (st_1228 _ _) dX12_feed_105 (fun H locs hw => ?_)
          generalize eS_40 : sI S_38 1228 mo v_39 = S_40 at hw
          have hat_mo : At S_40 mo 12 := by rw [← eS_40]; exact At_sI hat_mo
          have hat_q1227 : At S_40 q1227 13 := by rw [← eS_40]; exact At_sI hat_q1227
          have rf_q1227 : pR S_40 1227 mo = some q1227 := by rw [← eS_40, pR_sI]; exact rf_q1227
          have ln_q1227 : pN S_40 q1227 = 400 := by rw [← eS_40, pN_sI]; exact ln_q1227
          have hc_41 : pI S_40 1228 mo = v_39 := by rw [← eS_40]; exact pI_sI_same
          obtain ⟨x_42, ex_42⟩ : ∃ y : Int32, y = nI i + 1 := ⟨_, rfl⟩
          refine lv_iinc (v := x_42) (lv' := [(6, .int (x_42)), (7, .int (a2)), (0, .ref mo), (1, .int (a1)), (2, .int (a2)), (3, .int (a3)), (4, .int (a4)), (5, .int (a5))]) X.1 X.2.1 dX12_feed_108 hl (k := 1) rfl (by rw [ex_42]; rfl) (by decide) rfl (fun ls hl => ?_)
          refine lv_goto (tgt := 20) X.1 X.2.1 dX12_feed_111 (by decide) ?_
          exact ih (i + 1) _ _ _ _ (by omega) hat_mo rf_q1227 hat_q1227 ln_q1227 (hc_41.trans (ev_39.trans (nI_1 i))) hw (by rw [show nI (i + 1) = x_42 from by rw [ex_42]; exact (nI_1 i).symm]; exact lv_sub hl [0, 2, 3, 4, 5, 6, 7] rfl)
      · have z_30 := trivial
        refine lv_iload_n X.1 X.2.1 dX12_feed_33 rfl (lv_at hl 2 rfl) ?_
        refine lv_goto (tgt := 73) X.1 X.2.1 dX12_feed_34 (by decide) ?_
        refine lv_istore (lv' := [(7, .int (a1)), (6, .int (nI i)), (0, .ref mo), (1, .int (a1)), (2, .int (a2)), (3, .int (a3)), (4, .int (a4)), (5, .int (a5))]) X.1 X.2.1 dX12_feed_73 hl (by decide) rfl (fun ls hl => ?_)
        refine lv_aload_n X.1 X.2.1 dX12_feed_75 rfl (lv_at hl 2 rfl) ?_
        refine r_getR (g := 1227) X hw hat_mo 27 rf_q1227 (by decide) rfl inn_X12_feed_12 (by decide) (X.2.2.2.1 (.fieldLink RX12 82 "SilkMillModel" "tape" "[B") (by decide +kernel)) rfl (gv_1227 _ _) dX12_feed_76 ?_
        refine lv_aload_n X.1 X.2.1 dX12_feed_79 rfl (lv_at hl 2 rfl) ?_
        refine r_get (v := .int (nI i)) X hw hat_mo 28 (by decide) rfl inn_X12_feed_12 (by decide) (X.2.2.2.1 (.fieldLink RX12 211 "SilkMillModel" "taped" "I") (by decide +kernel)) rfl ((gv_1228 _ _).trans (congrArg (fun z => some (Value.int z)) ci_1228)) dX12_feed_80 ?_
        refine lv_iload X.1 X.2.1 dX12_feed_83 (lv_at hl 0 rfl) ?_
        refine lv_bipush (v := 24) X.1 X.2.1 dX12_feed_85 (by decide) ?_
        refine lv_bipush (v := 8) X.1 X.2.1 dX12_feed_87 (by decide) ?_
        refine lv_iload X.1 X.2.1 dX12_feed_89 (lv_at hl 1 rfl) ?_
        refine lv_iconst (v := 4) X.1 X.2.1 dX12_feed_91 (by decide) ?_
        refine lv_irem X.1 X.2.1 dX12_feed_92 (by decide) ?_
        refine lv_topi (fun v_43 ev_43 => ?_)
        refine lv_imul X.1 X.2.1 dX12_feed_93 ?_
        refine lv_topi (fun v_44 ev_44 => ?_)
        refine lv_isub X.1 X.2.1 dX12_feed_94 ?_
        refine lv_topi (fun v_45 ev_45 => ?_)
        refine lv_ishr X.1 X.2.1 dX12_feed_95 ?_
        refine lv_topi (fun v_46 ev_46 => ?_)
        refine lv_i2b X.1 X.2.1 dX12_feed_96 rfl ?_
        refine lv_topi (fun v_47 ev_47 => ?_)
        refine r_bast X hw hat_q1227 (by rw [ln_q1227]; exact vp_in_nI (by omega) (by omega)) dX12_feed_97 (fun H locs hw => ?_)
        generalize eS_48 : sA T q1227 (upd (pA T q1227) (Int32.toNatClampNeg (nI i)) (vp_nar .byte v_47)) = S_48 at hw
        have hat_mo : At S_48 mo 12 := by rw [← eS_48]; exact At_sA hat_mo
        have hat_q1227 : At S_48 q1227 13 := by rw [← eS_48]; exact At_sA hat_q1227
        have rf_q1227 : pR S_48 1227 mo = some q1227 := by rw [← eS_48, pR_sA]; exact rf_q1227
        have ci_1228 : pI S_48 1228 mo = nI i := by rw [← eS_48, pI_sA]; exact ci_1228
        have ln_q1227 : pN S_48 q1227 = 400 := by rw [← eS_48, pN_sA]; exact ln_q1227
        refine lv_aload_n X.1 X.2.1 dX12_feed_98 rfl (lv_at hl 2 rfl) ?_
        refine lv_dup X.1 X.2.1 dX12_feed_99 rfl ?_
        refine r_get (v := .int (nI i)) X hw hat_mo 28 (by decide) rfl inn_X12_feed_12 (by decide) (X.2.2.2.1 (.fieldLink RX12 211 "SilkMillModel" "taped" "I") (by decide +kernel)) rfl ((gv_1228 _ _).trans (congrArg (fun z => some (Value.int z)) ci_1228)) dX12_feed_100 ?_
        refine lv_iconst (v := 1) X.1 X.2.1 dX12_feed_103 (by decide) ?_
        refine lv_iadd X.1 X.2.1 dX12_feed_104 ?_
        refine lv_topi (fun v_49 ev_49 => ?_)
        refine r_putI (v := v_49) X hw hat_mo 28 1228 tyX12 (by decide) rfl inn_X12_feed_12 tyX12_ok nmX12 (by decide) (X.2.2.2.1 (.fieldLink RX12 211 "SilkMillModel" "taped" "I") (by decide +kernel)) rfl (Or.inl rfl) rfl rfl (Nat.le_of_ble_eq_true rfl) (st_1228 _ _) dX12_feed_105 (fun H locs hw => ?_)
        generalize eS_50 : sI S_48 1228 mo v_49 = S_50 at hw
        have hat_mo : At S_50 mo 12 := by rw [← eS_50]; exact At_sI hat_mo
        have hat_q1227 : At S_50 q1227 13 := by rw [← eS_50]; exact At_sI hat_q1227
        have rf_q1227 : pR S_50 1227 mo = some q1227 := by rw [← eS_50, pR_sI]; exact rf_q1227
        have ln_q1227 : pN S_50 q1227 = 400 := by rw [← eS_50, pN_sI]; exact ln_q1227
        have hc_51 : pI S_50 1228 mo = v_49 := by rw [← eS_50]; exact pI_sI_same
        obtain ⟨x_52, ex_52⟩ : ∃ y : Int32, y = nI i + 1 := ⟨_, rfl⟩
        refine lv_iinc (v := x_52) (lv' := [(6, .int (x_52)), (7, .int (a1)), (0, .ref mo), (1, .int (a1)), (2, .int (a2)), (3, .int (a3)), (4, .int (a4)), (5, .int (a5))]) X.1 X.2.1 dX12_feed_108 hl (k := 1) rfl (by rw [ex_52]; rfl) (by decide) rfl (fun ls hl => ?_)
        refine lv_goto (tgt := 20) X.1 X.2.1 dX12_feed_111 (by decide) ?_
        exact ih (i + 1) _ _ _ _ (by omega) hat_mo rf_q1227 hat_q1227 ln_q1227 (hc_51.trans (ev_49.trans (nI_1 i))) hw (by rw [show nI (i + 1) = x_52 from by rw [ex_52]; exact (nI_1 i).symm]; exact lv_sub hl [0, 2, 3, 4, 5, 6, 7] rfl)
  exact loop 20 0 _ _ _ _ (by omega) hat_mo rf_q1227 hat_q1227 ln_q1227 (by rw [show nI 0 = 0 from rfl]; exact ci_1228) hw (by rw [show nI 0 = 0 from rfl]; exact hl)
end
section
theorem dX12_thrown_0 : decode cX12_thrown 0 = .ok (.aload_n 0, 1) := by decide +kernel
theorem dX12_thrown_1 : decode cX12_thrown 1 = .ok (.getfield 161, 3) := by decide +kernel
theorem dX12_thrown_4 : decode cX12_thrown 4 = .ok (.ireturn, 1) := by decide +kernel
theorem inn_X12_thrown_12 : ∀ w ∈ u_ws RX12 TX12 66, w ∈ wsX12_thrown := fun w h => List.mem_cons_of_mem _ (List.mem_append_right _ h)
end
section
set_option maxHeartbeats 4000000 in
set_option maxRecDepth 100000 in
theorem c_X12_thrown (l : Launch) (G : va_G) (cy : Nat → ClassId) (S : PS) (sz : Nat) (mo : Nat) (hat_mo : At S mo 12) : Ci l yX12_thrown wsX12_thrown ({ frames := 1, cells := 0, slots := 0, locals := 40 }) G cy S sz [.ref mo] (fun (r : Int32) (S9 : PS) => r = pI S 1200 mo) := by
  refine ent_m (cc := cX12_thrown) (maxL := 1) (ret := (some .int)) (by decide) rfl (Nat.le_of_ble_eq_true rfl) ?_
  intro p e s m below meth c ls X hr hlocks hin hw hl hsz
  subst hsz
  have X : Cx p c cX12_thrown 1 s [.ref mo].toArray wsX12_thrown RX12 m G cy (AS S s.heap.size) := X
  have hl : lv_has ls 1 [(0, .ref mo)] := hl
  refine lv_aload_n X.1 X.2.1 dX12_thrown_0 rfl (lv_at hl 0 rfl) ?_
  refine r_get (v := .int (pI S 1200 mo)) X hw hat_mo 0 (by decide) rfl inn_X12_thrown_12 (by decide) (X.2.2.2.1 (.fieldLink RX12 161 "SilkMillModel" "thrown" "I") (by decide +kernel)) rfl (gv_1200 _ _) dX12_thrown_1 ?_
  refine lv_topi (fun v_1 ev_1 => ?_)
  exact ret_i X hw hr hlocks (Nat.le_of_ble_eq_true rfl) (Nat.le_of_ble_eq_true rfl) ev_1 dX12_thrown_4
end
