-- ===== PART A: goes FIRST, ahead of the names: the tables' words, and 'selects' of the private methods out of them =====
/-- a private method of a class that the tables say can be made, by its rows of tables_1 -/
def lw_okq (q : MethodName × Nat) : Prop := (q.1.cls ≠ "java/lang/invoke/MethodHandle" ∧ q.1.cls ≠ "java/lang/invoke/VarHandle") ∧ Cond.instantiable q.1.cls q.2 ∈ tables_1 ∧ Cond.privateMethod q.1 ∈ tables_1 ∧ Cond.instanceMethod q.1 ∈ tables_1
theorem lw_p0 : lw_okq (⟨"GrownTown$Board", "measureNear", "()V"⟩, 9) := ⟨⟨by decide +kernel, by decide +kernel⟩, List.mem_of_getElem? (i := 35) (by decide +kernel), List.mem_of_getElem? (i := 54) (by decide +kernel), List.mem_of_getElem? (i := 55) (by decide +kernel)⟩
theorem lw_p1 : lw_okq (⟨"GrownTown$Board", "far", "(II)I"⟩, 9) := ⟨⟨by decide +kernel, by decide +kernel⟩, List.mem_of_getElem? (i := 35) (by decide +kernel), List.mem_of_getElem? (i := 58) (by decide +kernel), List.mem_of_getElem? (i := 59) (by decide +kernel)⟩
theorem lw_p2 : lw_okq (⟨"GrownTown$Acts", "putNumber", "(II)V"⟩, 5) := ⟨⟨by decide +kernel, by decide +kernel⟩, List.mem_of_getElem? (i := 212) (by decide +kernel), List.mem_of_getElem? (i := 501) (by decide +kernel), List.mem_of_getElem? (i := 502) (by decide +kernel)⟩
theorem lw_p3 : lw_okq (⟨"GrownTown$Board", "becomeThing", "(III)V"⟩, 9) := ⟨⟨by decide +kernel, by decide +kernel⟩, List.mem_of_getElem? (i := 35) (by decide +kernel), List.mem_of_getElem? (i := 531) (by decide +kernel), List.mem_of_getElem? (i := 532) (by decide +kernel)⟩
theorem lw_p4 : lw_okq (⟨"GrownTown$Seekers", "ask", "(II)Z"⟩, 16) := ⟨⟨by decide +kernel, by decide +kernel⟩, List.mem_of_getElem? (i := 124) (by decide +kernel), List.mem_of_getElem? (i := 639) (by decide +kernel), List.mem_of_getElem? (i := 640) (by decide +kernel)⟩
theorem lw_p5 : lw_okq (⟨"GrownTown$Seekers", "bestPlot", "(II)I"⟩, 16) := ⟨⟨by decide +kernel, by decide +kernel⟩, List.mem_of_getElem? (i := 124) (by decide +kernel), List.mem_of_getElem? (i := 643) (by decide +kernel), List.mem_of_getElem? (i := 644) (by decide +kernel)⟩
theorem lw_p6 : lw_okq (⟨"GrownTown$Seekers", "valueOf", "(II)I"⟩, 16) := ⟨⟨by decide +kernel, by decide +kernel⟩, List.mem_of_getElem? (i := 124) (by decide +kernel), List.mem_of_getElem? (i := 647) (by decide +kernel), List.mem_of_getElem? (i := 648) (by decide +kernel)⟩
theorem lw_p7 : lw_okq (⟨"GrownTown$Seekers", "outbids", "(II)Z"⟩, 16) := ⟨⟨by decide +kernel, by decide +kernel⟩, List.mem_of_getElem? (i := 124) (by decide +kernel), List.mem_of_getElem? (i := 654) (by decide +kernel), List.mem_of_getElem? (i := 655) (by decide +kernel)⟩
theorem lw_p8 : lw_okq (⟨"GrownTown$Town", "settleIn", "()I"⟩, 8) := ⟨⟨by decide +kernel, by decide +kernel⟩, List.mem_of_getElem? (i := 29) (by decide +kernel), List.mem_of_getElem? (i := 658) (by decide +kernel), List.mem_of_getElem? (i := 659) (by decide +kernel)⟩
theorem lw_p9 : lw_okq (⟨"GrownTown$Town", "takeTaxes", "()I"⟩, 8) := ⟨⟨by decide +kernel, by decide +kernel⟩, List.mem_of_getElem? (i := 29) (by decide +kernel), List.mem_of_getElem? (i := 671) (by decide +kernel), List.mem_of_getElem? (i := 672) (by decide +kernel)⟩
theorem lw_p10 : lw_okq (⟨"GrownTown$Town", "sendAway", "()I"⟩, 8) := ⟨⟨by decide +kernel, by decide +kernel⟩, List.mem_of_getElem? (i := 29) (by decide +kernel), List.mem_of_getElem? (i := 682) (by decide +kernel), List.mem_of_getElem? (i := 683) (by decide +kernel)⟩
theorem lw_p11 : lw_okq (⟨"GrownTown$Town", "putFigure", "(II)V"⟩, 8) := ⟨⟨by decide +kernel, by decide +kernel⟩, List.mem_of_getElem? (i := 29) (by decide +kernel), List.mem_of_getElem? (i := 686) (by decide +kernel), List.mem_of_getElem? (i := 687) (by decide +kernel)⟩
theorem lw_p12 : lw_okq (⟨"GrownTown$Plans", "costOf", "(I)I"⟩, 7) := ⟨⟨by decide +kernel, by decide +kernel⟩, List.mem_of_getElem? (i := 372) (by decide +kernel), List.mem_of_getElem? (i := 735) (by decide +kernel), List.mem_of_getElem? (i := 736) (by decide +kernel)⟩
theorem lw_p13 : lw_okq (⟨"GrownTown$Plans", "isIn", "(II)Z"⟩, 7) := ⟨⟨by decide +kernel, by decide +kernel⟩, List.mem_of_getElem? (i := 372) (by decide +kernel), List.mem_of_getElem? (i := 739) (by decide +kernel), List.mem_of_getElem? (i := 740) (by decide +kernel)⟩
theorem lw_p14 : lw_okq (⟨"GrownTown$Plans", "has", "(I)Z"⟩, 7) := ⟨⟨by decide +kernel, by decide +kernel⟩, List.mem_of_getElem? (i := 372) (by decide +kernel), List.mem_of_getElem? (i := 743) (by decide +kernel), List.mem_of_getElem? (i := 744) (by decide +kernel)⟩
theorem lw_p15 : lw_okq (⟨"GrownTown$Plans", "canBe", "(ILGrownTown$Board;)Z"⟩, 7) := ⟨⟨by decide +kernel, by decide +kernel⟩, List.mem_of_getElem? (i := 372) (by decide +kernel), List.mem_of_getElem? (i := 747) (by decide +kernel), List.mem_of_getElem? (i := 748) (by decide +kernel)⟩
def lw_privs_1 : List (MethodName × Nat) := [(⟨"GrownTown$Board", "measureNear", "()V"⟩, 9), (⟨"GrownTown$Board", "far", "(II)I"⟩, 9), (⟨"GrownTown$Acts", "putNumber", "(II)V"⟩, 5), (⟨"GrownTown$Board", "becomeThing", "(III)V"⟩, 9), (⟨"GrownTown$Seekers", "ask", "(II)Z"⟩, 16), (⟨"GrownTown$Seekers", "bestPlot", "(II)I"⟩, 16), (⟨"GrownTown$Seekers", "valueOf", "(II)I"⟩, 16), (⟨"GrownTown$Seekers", "outbids", "(II)Z"⟩, 16), (⟨"GrownTown$Town", "settleIn", "()I"⟩, 8), (⟨"GrownTown$Town", "takeTaxes", "()I"⟩, 8), (⟨"GrownTown$Town", "sendAway", "()I"⟩, 8), (⟨"GrownTown$Town", "putFigure", "(II)V"⟩, 8), (⟨"GrownTown$Plans", "costOf", "(I)I"⟩, 7), (⟨"GrownTown$Plans", "isIn", "(II)Z"⟩, 7), (⟨"GrownTown$Plans", "has", "(I)Z"⟩, 7), (⟨"GrownTown$Plans", "canBe", "(ILGrownTown$Board;)Z"⟩, 7)]
theorem lw_r1 : ∀ q ∈ lw_privs_1, lw_okq q := List.forall_mem_cons.mpr ⟨lw_p0, List.forall_mem_cons.mpr ⟨lw_p1, List.forall_mem_cons.mpr ⟨lw_p2, List.forall_mem_cons.mpr ⟨lw_p3, List.forall_mem_cons.mpr ⟨lw_p4, List.forall_mem_cons.mpr ⟨lw_p5, List.forall_mem_cons.mpr ⟨lw_p6, List.forall_mem_cons.mpr ⟨lw_p7, List.forall_mem_cons.mpr ⟨lw_p8, List.forall_mem_cons.mpr ⟨lw_p9, List.forall_mem_cons.mpr ⟨lw_p10, List.forall_mem_cons.mpr ⟨lw_p11, List.forall_mem_cons.mpr ⟨lw_p12, List.forall_mem_cons.mpr ⟨lw_p13, List.forall_mem_cons.mpr ⟨lw_p14, List.forall_mem_cons.mpr ⟨lw_p15, fun _ h => absurd h List.not_mem_nil⟩⟩⟩⟩⟩⟩⟩⟩⟩⟩⟩⟩⟩⟩⟩⟩
theorem lw_p16 : lw_okq (⟨"GrownTown$Plans", "sumAfter", "(ILGrownTown$Town;)I"⟩, 7) := ⟨⟨by decide +kernel, by decide +kernel⟩, List.mem_of_getElem? (i := 372) (by decide +kernel), List.mem_of_getElem? (i := 757) (by decide +kernel), List.mem_of_getElem? (i := 758) (by decide +kernel)⟩
theorem lw_p17 : lw_okq (⟨"GrownTown$LawText", "split", "()V"⟩, 10) := ⟨⟨by decide +kernel, by decide +kernel⟩, List.mem_of_getElem? (i := 237) (by decide +kernel), List.mem_of_getElem? (i := 891) (by decide +kernel), List.mem_of_getElem? (i := 892) (by decide +kernel)⟩
theorem lw_p18 : lw_okq (⟨"GrownTown$LawText", "isLastOne", "()Z"⟩, 10) := ⟨⟨by decide +kernel, by decide +kernel⟩, List.mem_of_getElem? (i := 237) (by decide +kernel), List.mem_of_getElem? (i := 895) (by decide +kernel), List.mem_of_getElem? (i := 896) (by decide +kernel)⟩
theorem lw_p19 : lw_okq (⟨"GrownTown$LawText", "behindBlanks", "(I)I"⟩, 10) := ⟨⟨by decide +kernel, by decide +kernel⟩, List.mem_of_getElem? (i := 237) (by decide +kernel), List.mem_of_getElem? (i := 899) (by decide +kernel), List.mem_of_getElem? (i := 900) (by decide +kernel)⟩
theorem lw_p20 : lw_okq (⟨"GrownTown$LawText", "byteAt", "(I)I"⟩, 10) := ⟨⟨by decide +kernel, by decide +kernel⟩, List.mem_of_getElem? (i := 237) (by decide +kernel), List.mem_of_getElem? (i := 903) (by decide +kernel), List.mem_of_getElem? (i := 904) (by decide +kernel)⟩
theorem lw_p21 : lw_okq (⟨"GrownTown$LawText", "addTokenAt", "(I)I"⟩, 10) := ⟨⟨by decide +kernel, by decide +kernel⟩, List.mem_of_getElem? (i := 237) (by decide +kernel), List.mem_of_getElem? (i := 907) (by decide +kernel), List.mem_of_getElem? (i := 908) (by decide +kernel)⟩
theorem lw_p22 : lw_okq (⟨"GrownTown$LawText", "addToken", "(III)V"⟩, 10) := ⟨⟨by decide +kernel, by decide +kernel⟩, List.mem_of_getElem? (i := 237) (by decide +kernel), List.mem_of_getElem? (i := 911) (by decide +kernel), List.mem_of_getElem? (i := 912) (by decide +kernel)⟩
theorem lw_p23 : lw_okq (⟨"GrownTown$LawText", "isLetter", "(I)Z"⟩, 10) := ⟨⟨by decide +kernel, by decide +kernel⟩, List.mem_of_getElem? (i := 237) (by decide +kernel), List.mem_of_getElem? (i := 915) (by decide +kernel), List.mem_of_getElem? (i := 916) (by decide +kernel)⟩
theorem lw_p24 : lw_okq (⟨"GrownTown$LawText", "behindLetters", "(I)I"⟩, 10) := ⟨⟨by decide +kernel, by decide +kernel⟩, List.mem_of_getElem? (i := 237) (by decide +kernel), List.mem_of_getElem? (i := 919) (by decide +kernel), List.mem_of_getElem? (i := 920) (by decide +kernel)⟩
theorem lw_p25 : lw_okq (⟨"GrownTown$LawText", "addName", "(II)V"⟩, 10) := ⟨⟨by decide +kernel, by decide +kernel⟩, List.mem_of_getElem? (i := 237) (by decide +kernel), List.mem_of_getElem? (i := 923) (by decide +kernel), List.mem_of_getElem? (i := 924) (by decide +kernel)⟩
theorem lw_p26 : lw_okq (⟨"GrownTown$LawText", "spells", "(Ljava/lang/String;II)Z"⟩, 10) := ⟨⟨by decide +kernel, by decide +kernel⟩, List.mem_of_getElem? (i := 237) (by decide +kernel), List.mem_of_getElem? (i := 942) (by decide +kernel), List.mem_of_getElem? (i := 943) (by decide +kernel)⟩
theorem lw_p27 : lw_okq (⟨"GrownTown$LawText", "isFigure", "(I)Z"⟩, 10) := ⟨⟨by decide +kernel, by decide +kernel⟩, List.mem_of_getElem? (i := 237) (by decide +kernel), List.mem_of_getElem? (i := 994) (by decide +kernel), List.mem_of_getElem? (i := 995) (by decide +kernel)⟩
theorem lw_p28 : lw_okq (⟨"GrownTown$LawText", "behindFigures", "(I)I"⟩, 10) := ⟨⟨by decide +kernel, by decide +kernel⟩, List.mem_of_getElem? (i := 237) (by decide +kernel), List.mem_of_getElem? (i := 998) (by decide +kernel), List.mem_of_getElem? (i := 999) (by decide +kernel)⟩
theorem lw_p29 : lw_okq (⟨"GrownTown$LawText", "addNumber", "(II)V"⟩, 10) := ⟨⟨by decide +kernel, by decide +kernel⟩, List.mem_of_getElem? (i := 237) (by decide +kernel), List.mem_of_getElem? (i := 1002) (by decide +kernel), List.mem_of_getElem? (i := 1003) (by decide +kernel)⟩
theorem lw_p30 : lw_okq (⟨"GrownTown$LawText", "nextKind", "()I"⟩, 10) := ⟨⟨by decide +kernel, by decide +kernel⟩, List.mem_of_getElem? (i := 237) (by decide +kernel), List.mem_of_getElem? (i := 1006) (by decide +kernel), List.mem_of_getElem? (i := 1007) (by decide +kernel)⟩
theorem lw_p31 : lw_okq (⟨"GrownTown$LawText", "readLaw", "(LGrownTown$Laws;)Z"⟩, 10) := ⟨⟨by decide +kernel, by decide +kernel⟩, List.mem_of_getElem? (i := 237) (by decide +kernel), List.mem_of_getElem? (i := 1010) (by decide +kernel), List.mem_of_getElem? (i := 1011) (by decide +kernel)⟩
def lw_privs_2 : List (MethodName × Nat) := [(⟨"GrownTown$Plans", "sumAfter", "(ILGrownTown$Town;)I"⟩, 7), (⟨"GrownTown$LawText", "split", "()V"⟩, 10), (⟨"GrownTown$LawText", "isLastOne", "()Z"⟩, 10), (⟨"GrownTown$LawText", "behindBlanks", "(I)I"⟩, 10), (⟨"GrownTown$LawText", "byteAt", "(I)I"⟩, 10), (⟨"GrownTown$LawText", "addTokenAt", "(I)I"⟩, 10), (⟨"GrownTown$LawText", "addToken", "(III)V"⟩, 10), (⟨"GrownTown$LawText", "isLetter", "(I)Z"⟩, 10), (⟨"GrownTown$LawText", "behindLetters", "(I)I"⟩, 10), (⟨"GrownTown$LawText", "addName", "(II)V"⟩, 10), (⟨"GrownTown$LawText", "spells", "(Ljava/lang/String;II)Z"⟩, 10), (⟨"GrownTown$LawText", "isFigure", "(I)Z"⟩, 10), (⟨"GrownTown$LawText", "behindFigures", "(I)I"⟩, 10), (⟨"GrownTown$LawText", "addNumber", "(II)V"⟩, 10), (⟨"GrownTown$LawText", "nextKind", "()I"⟩, 10), (⟨"GrownTown$LawText", "readLaw", "(LGrownTown$Laws;)Z"⟩, 10)]
theorem lw_r2 : ∀ q ∈ lw_privs_2, lw_okq q := List.forall_mem_cons.mpr ⟨lw_p16, List.forall_mem_cons.mpr ⟨lw_p17, List.forall_mem_cons.mpr ⟨lw_p18, List.forall_mem_cons.mpr ⟨lw_p19, List.forall_mem_cons.mpr ⟨lw_p20, List.forall_mem_cons.mpr ⟨lw_p21, List.forall_mem_cons.mpr ⟨lw_p22, List.forall_mem_cons.mpr ⟨lw_p23, List.forall_mem_cons.mpr ⟨lw_p24, List.forall_mem_cons.mpr ⟨lw_p25, List.forall_mem_cons.mpr ⟨lw_p26, List.forall_mem_cons.mpr ⟨lw_p27, List.forall_mem_cons.mpr ⟨lw_p28, List.forall_mem_cons.mpr ⟨lw_p29, List.forall_mem_cons.mpr ⟨lw_p30, List.forall_mem_cons.mpr ⟨lw_p31, fun _ h => absurd h List.not_mem_nil⟩⟩⟩⟩⟩⟩⟩⟩⟩⟩⟩⟩⟩⟩⟩⟩
theorem lw_p32 : lw_okq (⟨"GrownTown$LawText", "isNext", "(III)Z"⟩, 10) := ⟨⟨by decide +kernel, by decide +kernel⟩, List.mem_of_getElem? (i := 237) (by decide +kernel), List.mem_of_getElem? (i := 1014) (by decide +kernel), List.mem_of_getElem? (i := 1015) (by decide +kernel)⟩
theorem lw_p33 : lw_okq (⟨"GrownTown$LawText", "refuse", "(I)Z"⟩, 10) := ⟨⟨by decide +kernel, by decide +kernel⟩, List.mem_of_getElem? (i := 237) (by decide +kernel), List.mem_of_getElem? (i := 1018) (by decide +kernel), List.mem_of_getElem? (i := 1019) (by decide +kernel)⟩
theorem lw_p34 : lw_okq (⟨"GrownTown$LawText", "take", "()V"⟩, 10) := ⟨⟨by decide +kernel, by decide +kernel⟩, List.mem_of_getElem? (i := 237) (by decide +kernel), List.mem_of_getElem? (i := 1026) (by decide +kernel), List.mem_of_getElem? (i := 1027) (by decide +kernel)⟩
theorem lw_p35 : lw_okq (⟨"GrownTown$LawText", "takeNumber", "(II)Z"⟩, 10) := ⟨⟨by decide +kernel, by decide +kernel⟩, List.mem_of_getElem? (i := 237) (by decide +kernel), List.mem_of_getElem? (i := 1030) (by decide +kernel), List.mem_of_getElem? (i := 1031) (by decide +kernel)⟩
theorem lw_p36 : lw_okq (⟨"GrownTown$LawText", "takeWord", "(II)Z"⟩, 10) := ⟨⟨by decide +kernel, by decide +kernel⟩, List.mem_of_getElem? (i := 237) (by decide +kernel), List.mem_of_getElem? (i := 1034) (by decide +kernel), List.mem_of_getElem? (i := 1035) (by decide +kernel)⟩
theorem lw_p37 : lw_okq (⟨"GrownTown$LawText", "nextUse", "()I"⟩, 10) := ⟨⟨by decide +kernel, by decide +kernel⟩, List.mem_of_getElem? (i := 237) (by decide +kernel), List.mem_of_getElem? (i := 1038) (by decide +kernel), List.mem_of_getElem? (i := 1039) (by decide +kernel)⟩
theorem lw_p38 : lw_okq (⟨"GrownTown$LawText", "readNumbers", "(ILGrownTown$Laws;I)Z"⟩, 10) := ⟨⟨by decide +kernel, by decide +kernel⟩, List.mem_of_getElem? (i := 237) (by decide +kernel), List.mem_of_getElem? (i := 1056) (by decide +kernel), List.mem_of_getElem? (i := 1057) (by decide +kernel)⟩
theorem lw_p39 : lw_okq (⟨"GrownTown$LawText", "readNumber", "(LGrownTown$Laws;IIII)Z"⟩, 10) := ⟨⟨by decide +kernel, by decide +kernel⟩, List.mem_of_getElem? (i := 237) (by decide +kernel), List.mem_of_getElem? (i := 1060) (by decide +kernel), List.mem_of_getElem? (i := 1061) (by decide +kernel)⟩
def lw_privs_3 : List (MethodName × Nat) := [(⟨"GrownTown$LawText", "isNext", "(III)Z"⟩, 10), (⟨"GrownTown$LawText", "refuse", "(I)Z"⟩, 10), (⟨"GrownTown$LawText", "take", "()V"⟩, 10), (⟨"GrownTown$LawText", "takeNumber", "(II)Z"⟩, 10), (⟨"GrownTown$LawText", "takeWord", "(II)Z"⟩, 10), (⟨"GrownTown$LawText", "nextUse", "()I"⟩, 10), (⟨"GrownTown$LawText", "readNumbers", "(ILGrownTown$Laws;I)Z"⟩, 10), (⟨"GrownTown$LawText", "readNumber", "(LGrownTown$Laws;IIII)Z"⟩, 10)]
theorem lw_r3 : ∀ q ∈ lw_privs_3, lw_okq q := List.forall_mem_cons.mpr ⟨lw_p32, List.forall_mem_cons.mpr ⟨lw_p33, List.forall_mem_cons.mpr ⟨lw_p34, List.forall_mem_cons.mpr ⟨lw_p35, List.forall_mem_cons.mpr ⟨lw_p36, List.forall_mem_cons.mpr ⟨lw_p37, List.forall_mem_cons.mpr ⟨lw_p38, List.forall_mem_cons.mpr ⟨lw_p39, fun _ h => absurd h List.not_mem_nil⟩⟩⟩⟩⟩⟩⟩⟩
def lw_privs : List (MethodName × Nat) := lw_privs_1 ++ (lw_privs_2 ++ (lw_privs_3))
def lw_tbl : List Cond := k2_sels lw_privs ++ tables_1
theorem lw_privs_ok : ∀ q ∈ lw_privs, lw_okq q := by
  show ∀ q ∈ lw_privs_1 ++ (lw_privs_2 ++ (lw_privs_3)), lw_okq q
  exact List.forall_mem_append.mpr ⟨lw_r1, List.forall_mem_append.mpr ⟨lw_r2, lw_r3⟩⟩
-- ===== end of PART A =====
def RX0 : String := "GrownTown$Acts"
def TX0 : u_T := fun k => match k with
  | 0 => ("GrownTown$Acts", "kept", "I", false)
  | 1 => ("GrownTown$Acts", "kinds", "[I", true)
  | 2 => ("GrownTown$Acts", "years", "[I", true)
  | 3 => ("GrownTown$Acts", "numbers", "[I", true)
  | _ => ("GrownTown$Acts", "told", "[LGrownTown$Laws;", true)
def tyX0 : Nat → FieldType := fun k => match k with
  | 0 => .int
  | 1 => .array .int
  | 2 => .array .int
  | 3 => .array .int
  | _ => .array (.object "GrownTown$Laws")
theorem nmX0 : ∀ a, a < 5 → ∀ b, b < 5 → a ≠ b → (TX0 a).2.1 ≠ (TX0 b).2.1 := by decide +kernel
theorem tyX0_ok : ∀ k, k < 5 → parseFieldDescriptor (TX0 k).2.2.1 = some (tyX0 k) := by decide +kernel
def RX1 : String := "GrownTown$Board"
def TX1 : u_T := fun k => match k with
  | 0 => ("GrownTown$Board", "w", "I", false)
  | 1 => ("GrownTown$Board", "h", "I", false)
  | 2 => ("GrownTown$Board", "plots", "I", false)
  | 3 => ("GrownTown$Board", "changes", "I", false)
  | 4 => ("GrownTown$Board", "grounds", "[I", true)
  | 5 => ("GrownTown$Board", "heights", "[I", true)
  | 6 => ("GrownTown$Board", "uses", "[I", true)
  | 7 => ("GrownTown$Board", "things", "[J", true)
  | _ => ("GrownTown$Board", "near", "[J", true)
def tyX1 : Nat → FieldType := fun k => match k with
  | 0 => .int
  | 1 => .int
  | 2 => .int
  | 3 => .int
  | 4 => .array .int
  | 5 => .array .int
  | 6 => .array .int
  | 7 => .array .long
  | _ => .array .long
theorem nmX1 : ∀ a, a < 9 → ∀ b, b < 9 → a ≠ b → (TX1 a).2.1 ≠ (TX1 b).2.1 := by decide +kernel
theorem tyX1_ok : ∀ k, k < 9 → parseFieldDescriptor (TX1 k).2.2.1 = some (tyX1 k) := by decide +kernel
def RX2 : String := "GrownTown$LawText"
def TX2 : u_T := fun k => match k with
  | 0 => ("GrownTown$LawText", "length", "I", false)
  | 1 => ("GrownTown$LawText", "fault", "I", false)
  | 2 => ("GrownTown$LawText", "faultPlace", "I", false)
  | 3 => ("GrownTown$LawText", "bytes", "[I", true)
  | 4 => ("GrownTown$LawText", "tokens", "I", false)
  | 5 => ("GrownTown$LawText", "kinds", "[I", true)
  | 6 => ("GrownTown$LawText", "starts", "[I", true)
  | 7 => ("GrownTown$LawText", "values", "[I", true)
  | 8 => ("GrownTown$LawText", "next", "I", false)
  | _ => ("GrownTown$LawText", "taken", "I", false)
def tyX2 : Nat → FieldType := fun k => match k with
  | 0 => .int
  | 1 => .int
  | 2 => .int
  | 3 => .array .int
  | 4 => .int
  | 5 => .array .int
  | 6 => .array .int
  | 7 => .array .int
  | 8 => .int
  | _ => .int
theorem nmX2 : ∀ a, a < 10 → ∀ b, b < 10 → a ≠ b → (TX2 a).2.1 ≠ (TX2 b).2.1 := by decide +kernel
theorem tyX2_ok : ∀ k, k < 10 → parseFieldDescriptor (TX2 k).2.2.1 = some (tyX2 k) := by decide +kernel
def RX3 : String := "GrownTown$Laws"
def TX3 : u_T := fun k => match k with
  | 0 => ("GrownTown$Laws", "told", "I", false)
  | _ => ("GrownTown$Laws", "rows", "[I", true)
def tyX3 : Nat → FieldType := fun k => match k with
  | 0 => .int
  | _ => .array .int
theorem nmX3 : ∀ a, a < 2 → ∀ b, b < 2 → a ≠ b → (TX3 a).2.1 ≠ (TX3 b).2.1 := by decide +kernel
theorem tyX3_ok : ∀ k, k < 2 → parseFieldDescriptor (TX3 k).2.2.1 = some (tyX3 k) := by decide +kernel
def RX4 : String := "GrownTown$Notes"
def TX4 : u_T := fun k => match k with
  | 0 => ("GrownTown$Notes", "told", "I", false)
  | 1 => ("GrownTown$Notes", "knownIn", "[I", true)
  | 2 => ("GrownTown$Notes", "years", "[I", true)
  | 3 => ("GrownTown$Notes", "plots", "[I", true)
  | _ => ("GrownTown$Notes", "uses", "[I", true)
def tyX4 : Nat → FieldType := fun k => match k with
  | 0 => .int
  | 1 => .array .int
  | 2 => .array .int
  | 3 => .array .int
  | _ => .array .int
theorem nmX4 : ∀ a, a < 5 → ∀ b, b < 5 → a ≠ b → (TX4 a).2.1 ≠ (TX4 b).2.1 := by decide +kernel
theorem tyX4_ok : ∀ k, k < 5 → parseFieldDescriptor (TX4 k).2.2.1 = some (tyX4 k) := by decide +kernel
def RX5 : String := "GrownTown$Plans"
def TX5 : u_T := fun k => match k with
  | 0 => ("GrownTown$Plans", "told", "I", false)
  | 1 => ("GrownTown$Plans", "bestSet", "I", false)
  | 2 => ("GrownTown$Plans", "bestCost", "I", false)
  | 3 => ("GrownTown$Plans", "bestSum", "I", false)
  | 4 => ("GrownTown$Plans", "plots", "[I", true)
  | 5 => ("GrownTown$Plans", "kinds", "[I", true)
  | _ => ("GrownTown$Plans", "costs", "[I", true)
def tyX5 : Nat → FieldType := fun k => match k with
  | 0 => .int
  | 1 => .int
  | 2 => .int
  | 3 => .int
  | 4 => .array .int
  | 5 => .array .int
  | _ => .array .int
theorem nmX5 : ∀ a, a < 7 → ∀ b, b < 7 → a ≠ b → (TX5 a).2.1 ≠ (TX5 b).2.1 := by decide +kernel
theorem tyX5_ok : ∀ k, k < 7 → parseFieldDescriptor (TX5 k).2.2.1 = some (tyX5 k) := by decide +kernel
def RX6 : String := "GrownTown$Seekers"
def TX6 : u_T := fun k => match k with
  | 0 => ("GrownTown$Seekers", "come", "I", false)
  | 1 => ("GrownTown$Seekers", "use", "[I", true)
  | 2 => ("GrownTown$Seekers", "purse", "[I", true)
  | 3 => ("GrownTown$Seekers", "taste", "[I", true)
  | 4 => ("GrownTown$Seekers", "coming", "[I", true)
  | 5 => ("GrownTown$Seekers", "plot", "[I", true)
  | 6 => ("GrownTown$Seekers", "left", "[I", true)
  | 7 => ("GrownTown$Seekers", "paid", "[I", true)
  | 8 => ("GrownTown$Seekers", "since", "[I", true)
  | 9 => ("GrownTown$Seekers", "heldBy", "[I", true)
  | 10 => ("GrownTown$Seekers", "bid", "[I", true)
  | 11 => ("GrownTown$Seekers", "letGo", "[J", true)
  | 12 => ("GrownTown$Seekers", "holds", "[I", true)
  | 13 => ("GrownTown$Seekers", "open", "[J", true)
  | 14 => ("GrownTown$Seekers", "worths", "[I", true)
  | _ => ("GrownTown$Seekers", "heights", "[I", true)
def tyX6 : Nat → FieldType := fun k => match k with
  | 0 => .int
  | 1 => .array .int
  | 2 => .array .int
  | 3 => .array .int
  | 4 => .array .int
  | 5 => .array .int
  | 6 => .array .int
  | 7 => .array .int
  | 8 => .array .int
  | 9 => .array .int
  | 10 => .array .int
  | 11 => .array .long
  | 12 => .array .int
  | 13 => .array .long
  | 14 => .array .int
  | _ => .array .int
theorem nmX6 : ∀ a, a < 16 → ∀ b, b < 16 → a ≠ b → (TX6 a).2.1 ≠ (TX6 b).2.1 := by decide +kernel
theorem tyX6_ok : ∀ k, k < 16 → parseFieldDescriptor (TX6 k).2.2.1 = some (tyX6 k) := by decide +kernel
def RX7 : String := "GrownTown$Sheets"
def TX7 : u_T := fun k => match k with
  | 0 => ("GrownTown$Sheets", "sizes", "[I", true)
  | 1 => ("GrownTown$Sheets", "lanes", "[I", true)
  | _ => ("GrownTown$Sheets", "cells", "[I", true)
def tyX7 : Nat → FieldType := fun k => match k with
  | 0 => .array .int
  | 1 => .array .int
  | _ => .array .int
theorem nmX7 : ∀ a, a < 3 → ∀ b, b < 3 → a ≠ b → (TX7 a).2.1 ≠ (TX7 b).2.1 := by decide +kernel
theorem tyX7_ok : ∀ k, k < 3 → parseFieldDescriptor (TX7 k).2.2.1 = some (tyX7 k) := by decide +kernel
def RX8 : String := "GrownTown$Town"
def TX8 : u_T := fun k => match k with
  | 0 => ("GrownTown$Town", "board", "LGrownTown$Board;", true)
  | 1 => ("GrownTown$Town", "laws", "LGrownTown$Laws;", true)
  | 2 => ("GrownTown$Town", "seekers", "LGrownTown$Seekers;", true)
  | 3 => ("GrownTown$Town", "year", "I", false)
  | 4 => ("GrownTown$Town", "chest", "I", false)
  | 5 => ("GrownTown$Town", "uses", "[I", true)
  | 6 => ("GrownTown$Town", "figures", "[I", true)
  | _ => ("GrownTown$Town", "taxed", "[I", true)
def tyX8 : Nat → FieldType := fun k => match k with
  | 0 => .object "GrownTown$Board"
  | 1 => .object "GrownTown$Laws"
  | 2 => .object "GrownTown$Seekers"
  | 3 => .int
  | 4 => .int
  | 5 => .array .int
  | 6 => .array .int
  | _ => .array .int
theorem nmX8 : ∀ a, a < 8 → ∀ b, b < 8 → a ≠ b → (TX8 a).2.1 ≠ (TX8 b).2.1 := by decide +kernel
theorem tyX8_ok : ∀ k, k < 8 → parseFieldDescriptor (TX8 k).2.2.1 = some (tyX8 k) := by decide +kernel
def RX9 : String := "GrownTown$Trips"
def TX9 : u_T := fun k => match k with
  | 0 => ("GrownTown$Trips", "ways", "LGrownTown$Ways;", true)
  | 1 => ("GrownTown$Trips", "told", "I", false)
  | 2 => ("GrownTown$Trips", "rounds", "I", false)
  | 3 => ("GrownTown$Trips", "spent", "Z", false)
  | 4 => ("GrownTown$Trips", "settledFor", "I", false)
  | 5 => ("GrownTown$Trips", "settledAt", "I", false)
  | 6 => ("GrownTown$Trips", "from", "[I", true)
  | 7 => ("GrownTown$Trips", "to", "[I", true)
  | 8 => ("GrownTown$Trips", "out", "[I", true)
  | 9 => ("GrownTown$Trips", "alone", "[I", true)
  | 10 => ("GrownTown$Trips", "takes", "[I", true)
  | 11 => ("GrownTown$Trips", "lengths", "[I", true)
  | _ => ("GrownTown$Trips", "plots", "[I", true)
def tyX9 : Nat → FieldType := fun k => match k with
  | 0 => .object "GrownTown$Ways"
  | 1 => .int
  | 2 => .int
  | 3 => .boolean
  | 4 => .int
  | 5 => .int
  | 6 => .array .int
  | 7 => .array .int
  | 8 => .array .int
  | 9 => .array .int
  | 10 => .array .int
  | 11 => .array .int
  | _ => .array .int
theorem nmX9 : ∀ a, a < 13 → ∀ b, b < 13 → a ≠ b → (TX9 a).2.1 ≠ (TX9 b).2.1 := by decide +kernel
theorem tyX9_ok : ∀ k, k < 13 → parseFieldDescriptor (TX9 k).2.2.1 = some (tyX9 k) := by decide +kernel
def RX10 : String := "GrownTown$Ways"
def TX10 : u_T := fun k => match k with
  | 0 => ("GrownTown$Ways", "board", "LGrownTown$Board;", true)
  | 1 => ("GrownTown$Ways", "trams", "I", false)
  | 2 => ("GrownTown$Ways", "stops", "[I", true)
  | 3 => ("GrownTown$Ways", "stopCounts", "[I", true)
  | 4 => ("GrownTown$Ways", "ends", "[I", true)
  | 5 => ("GrownTown$Ways", "bare", "[I", true)
  | 6 => ("GrownTown$Ways", "crowd", "[I", true)
  | 7 => ("GrownTown$Ways", "laidFor", "I", false)
  | 8 => ("GrownTown$Ways", "times", "[I", true)
  | 9 => ("GrownTown$Ways", "done", "[I", true)
  | 10 => ("GrownTown$Ways", "onFoot", "Z", false)
  | 11 => ("GrownTown$Ways", "length", "I", false)
  | 12 => ("GrownTown$Ways", "plots", "[I", true)
  | 13 => ("GrownTown$Ways", "afoot", "Z", false)
  | _ => ("GrownTown$Ways", "aboard", "I", false)
def tyX10 : Nat → FieldType := fun k => match k with
  | 0 => .object "GrownTown$Board"
  | 1 => .int
  | 2 => .array .int
  | 3 => .array .int
  | 4 => .array .int
  | 5 => .array .int
  | 6 => .array .int
  | 7 => .int
  | 8 => .array .int
  | 9 => .array .int
  | 10 => .boolean
  | 11 => .int
  | 12 => .array .int
  | 13 => .boolean
  | _ => .int
theorem nmX10 : ∀ a, a < 15 → ∀ b, b < 15 → a ≠ b → (TX10 a).2.1 ≠ (TX10 b).2.1 := by decide +kernel
theorem tyX10_ok : ∀ k, k < 15 → parseFieldDescriptor (TX10 k).2.2.1 = some (tyX10 k) := by decide +kernel
def RX11 : String := "GrownTown"
def TX11 : u_T := fun k => match k with
  | 0 => ("GrownTown", "town", "LGrownTown$Town;", true)
  | 1 => ("GrownTown", "anew", "LGrownTown$Town;", true)
  | 2 => ("GrownTown", "acts", "LGrownTown$Acts;", true)
  | 3 => ("GrownTown", "tape", "LGrownTown$LawText;", true)
  | 4 => ("GrownTown", "read", "LGrownTown$Laws;", true)
  | 5 => ("GrownTown", "ways", "LGrownTown$Ways;", true)
  | 6 => ("GrownTown", "trips", "LGrownTown$Trips;", true)
  | 7 => ("GrownTown", "plans", "LGrownTown$Plans;", true)
  | 8 => ("GrownTown", "notes", "LGrownTown$Notes;", true)
  | _ => ("GrownTown", "sheets", "LGrownTown$Sheets;", true)
def tyX11 : Nat → FieldType := fun k => match k with
  | 0 => .object "GrownTown$Town"
  | 1 => .object "GrownTown$Town"
  | 2 => .object "GrownTown$Acts"
  | 3 => .object "GrownTown$LawText"
  | 4 => .object "GrownTown$Laws"
  | 5 => .object "GrownTown$Ways"
  | 6 => .object "GrownTown$Trips"
  | 7 => .object "GrownTown$Plans"
  | 8 => .object "GrownTown$Notes"
  | _ => .object "GrownTown$Sheets"
theorem nmX11 : ∀ a, a < 10 → ∀ b, b < 10 → a ≠ b → (TX11 a).2.1 ≠ (TX11 b).2.1 := by decide +kernel
theorem tyX11_ok : ∀ k, k < 10 → parseFieldDescriptor (TX11 k).2.2.1 = some (tyX11 k) := by decide +kernel
abbrev vwCl : List vw_C := [(RX0, TX0, 5), (RX1, TX1, 9), (RX2, TX2, 10), (RX3, TX3, 2), (RX4, TX4, 5), (RX5, TX5, 7), (RX6, TX6, 16), (RX7, TX7, 3), (RX8, TX8, 8), (RX9, TX9, 13), (RX10, TX10, 15), (RX11, TX11, 10)]
/-- words of a list are among another's, by their places -/
theorem z_places {α : Type} {big ws : List α} (ps : List Nat) (h : ps.map (fun i => big[i]?) = ws.map some) : ∀ w ∈ ws, w ∈ big := by
  intro w hw
  have h1 : some w ∈ ws.map some := List.mem_map.mpr ⟨w, hw, rfl⟩
  rw [← h] at h1
  obtain ⟨i, -, hi⟩ := List.mem_map.mp h1
  exact List.mem_of_getElem? hi
set_option maxRecDepth 100000 in
theorem z_lay0 : ∀ w ∈ u_ws RX0 TX0 5, w ∈ lw_tbl := z_places [265, 267, 269, 271, 273] (by decide +kernel)
set_option maxRecDepth 100000 in
theorem z_lay1 : ∀ w ∈ u_ws RX1 TX1 9, w ∈ lw_tbl := z_places [126, 128, 130, 132, 134, 136, 138, 140, 142] (by decide +kernel)
set_option maxRecDepth 100000 in
theorem z_lay2 : ∀ w ∈ u_ws RX2 TX2 10, w ∈ lw_tbl := z_places [295, 297, 299, 301, 303, 305, 307, 309, 311, 313] (by decide +kernel)
set_option maxRecDepth 100000 in
theorem z_lay3 : ∀ w ∈ u_ws RX3 TX3 2, w ∈ lw_tbl := z_places [158, 160] (by decide +kernel)
set_option maxRecDepth 100000 in
theorem z_lay4 : ∀ w ∈ u_ws RX4 TX4 5, w ∈ lw_tbl := z_places [455, 457, 459, 461, 463] (by decide +kernel)
set_option maxRecDepth 100000 in
theorem z_lay5 : ∀ w ∈ u_ws RX5 TX5 7, w ∈ lw_tbl := z_places [428, 430, 432, 434, 436, 438, 440] (by decide +kernel)
set_option maxRecDepth 100000 in
theorem z_lay6 : ∀ w ∈ u_ws RX6 TX6 16, w ∈ lw_tbl := z_places [187, 189, 191, 193, 195, 197, 199, 201, 203, 205, 207, 209, 211, 213, 215, 217] (by decide +kernel)
set_option maxRecDepth 100000 in
theorem z_lay7 : ∀ w ∈ u_ws RX7 TX7 3, w ∈ lw_tbl := z_places [476, 478, 480] (by decide +kernel)
set_option maxRecDepth 100000 in
theorem z_lay8 : ∀ w ∈ u_ws RX8 TX8 8, w ∈ lw_tbl := z_places [234, 236, 238, 240, 242, 244, 246, 248] (by decide +kernel)
set_option maxRecDepth 100000 in
theorem z_lay9 : ∀ w ∈ u_ws RX9 TX9 13, w ∈ lw_tbl := z_places [384, 386, 388, 390, 392, 394, 396, 398, 400, 402, 404, 406, 408] (by decide +kernel)
set_option maxRecDepth 100000 in
theorem z_lay10 : ∀ w ∈ u_ws RX10 TX10 15, w ∈ lw_tbl := z_places [336, 338, 340, 342, 344, 346, 348, 350, 352, 354, 356, 358, 360, 362, 364] (by decide +kernel)
set_option maxRecDepth 100000 in
theorem z_lay11 : ∀ w ∈ u_ws RX11 TX11 10, w ∈ lw_tbl := z_places [493, 495, 497, 499, 501, 503, 505, 507, 509, 511] (by decide +kernel)
