-- ===== PART A: goes FIRST, ahead of the names: the tables' words, and 'selects' of the private methods out of them =====
/-- a private method of a class that the tables say can be made, by its rows of tables_1 -/
def lw_okq (q : MethodName × Nat) : Prop := (q.1.cls ≠ "java/lang/invoke/MethodHandle" ∧ q.1.cls ≠ "java/lang/invoke/VarHandle") ∧ Cond.instantiable q.1.cls q.2 ∈ tables_1 ∧ Cond.privateMethod q.1 ∈ tables_1 ∧ Cond.instanceMethod q.1 ∈ tables_1
theorem lw_p0 : lw_okq (⟨"GrownTown$Board", "measureNear", "()V"⟩, 9) := ⟨⟨by decide +kernel, by decide +kernel⟩, List.mem_of_getElem? (i := 36) (by decide +kernel), List.mem_of_getElem? (i := 55) (by decide +kernel), List.mem_of_getElem? (i := 56) (by decide +kernel)⟩
theorem lw_p1 : lw_okq (⟨"GrownTown$Board", "far", "(II)I"⟩, 9) := ⟨⟨by decide +kernel, by decide +kernel⟩, List.mem_of_getElem? (i := 36) (by decide +kernel), List.mem_of_getElem? (i := 59) (by decide +kernel), List.mem_of_getElem? (i := 60) (by decide +kernel)⟩
theorem lw_p2 : lw_okq (⟨"GrownTown$Acts", "putNumber", "(II)V"⟩, 5) := ⟨⟨by decide +kernel, by decide +kernel⟩, List.mem_of_getElem? (i := 220) (by decide +kernel), List.mem_of_getElem? (i := 542) (by decide +kernel), List.mem_of_getElem? (i := 543) (by decide +kernel)⟩
theorem lw_p3 : lw_okq (⟨"GrownTown$Board", "becomeThing", "(III)V"⟩, 9) := ⟨⟨by decide +kernel, by decide +kernel⟩, List.mem_of_getElem? (i := 36) (by decide +kernel), List.mem_of_getElem? (i := 555) (by decide +kernel), List.mem_of_getElem? (i := 556) (by decide +kernel)⟩
theorem lw_p4 : lw_okq (⟨"GrownTown$LawText", "split", "()V"⟩, 10) := ⟨⟨by decide +kernel, by decide +kernel⟩, List.mem_of_getElem? (i := 245) (by decide +kernel), List.mem_of_getElem? (i := 635) (by decide +kernel), List.mem_of_getElem? (i := 636) (by decide +kernel)⟩
theorem lw_p5 : lw_okq (⟨"GrownTown$LawText", "isLastOne", "()Z"⟩, 10) := ⟨⟨by decide +kernel, by decide +kernel⟩, List.mem_of_getElem? (i := 245) (by decide +kernel), List.mem_of_getElem? (i := 639) (by decide +kernel), List.mem_of_getElem? (i := 640) (by decide +kernel)⟩
theorem lw_p6 : lw_okq (⟨"GrownTown$LawText", "behindBlanks", "(I)I"⟩, 10) := ⟨⟨by decide +kernel, by decide +kernel⟩, List.mem_of_getElem? (i := 245) (by decide +kernel), List.mem_of_getElem? (i := 643) (by decide +kernel), List.mem_of_getElem? (i := 644) (by decide +kernel)⟩
theorem lw_p7 : lw_okq (⟨"GrownTown$LawText", "byteAt", "(I)I"⟩, 10) := ⟨⟨by decide +kernel, by decide +kernel⟩, List.mem_of_getElem? (i := 245) (by decide +kernel), List.mem_of_getElem? (i := 647) (by decide +kernel), List.mem_of_getElem? (i := 648) (by decide +kernel)⟩
theorem lw_p8 : lw_okq (⟨"GrownTown$LawText", "addTokenAt", "(I)I"⟩, 10) := ⟨⟨by decide +kernel, by decide +kernel⟩, List.mem_of_getElem? (i := 245) (by decide +kernel), List.mem_of_getElem? (i := 651) (by decide +kernel), List.mem_of_getElem? (i := 652) (by decide +kernel)⟩
theorem lw_p9 : lw_okq (⟨"GrownTown$LawText", "addToken", "(III)V"⟩, 10) := ⟨⟨by decide +kernel, by decide +kernel⟩, List.mem_of_getElem? (i := 245) (by decide +kernel), List.mem_of_getElem? (i := 655) (by decide +kernel), List.mem_of_getElem? (i := 656) (by decide +kernel)⟩
theorem lw_p10 : lw_okq (⟨"GrownTown$LawText", "isLetter", "(I)Z"⟩, 10) := ⟨⟨by decide +kernel, by decide +kernel⟩, List.mem_of_getElem? (i := 245) (by decide +kernel), List.mem_of_getElem? (i := 659) (by decide +kernel), List.mem_of_getElem? (i := 660) (by decide +kernel)⟩
theorem lw_p11 : lw_okq (⟨"GrownTown$LawText", "behindLetters", "(I)I"⟩, 10) := ⟨⟨by decide +kernel, by decide +kernel⟩, List.mem_of_getElem? (i := 245) (by decide +kernel), List.mem_of_getElem? (i := 663) (by decide +kernel), List.mem_of_getElem? (i := 664) (by decide +kernel)⟩
theorem lw_p12 : lw_okq (⟨"GrownTown$LawText", "addName", "(II)V"⟩, 10) := ⟨⟨by decide +kernel, by decide +kernel⟩, List.mem_of_getElem? (i := 245) (by decide +kernel), List.mem_of_getElem? (i := 667) (by decide +kernel), List.mem_of_getElem? (i := 668) (by decide +kernel)⟩
theorem lw_p13 : lw_okq (⟨"GrownTown$LawText", "spells", "(Ljava/lang/String;II)Z"⟩, 10) := ⟨⟨by decide +kernel, by decide +kernel⟩, List.mem_of_getElem? (i := 245) (by decide +kernel), List.mem_of_getElem? (i := 686) (by decide +kernel), List.mem_of_getElem? (i := 687) (by decide +kernel)⟩
theorem lw_p14 : lw_okq (⟨"GrownTown$LawText", "isFigure", "(I)Z"⟩, 10) := ⟨⟨by decide +kernel, by decide +kernel⟩, List.mem_of_getElem? (i := 245) (by decide +kernel), List.mem_of_getElem? (i := 738) (by decide +kernel), List.mem_of_getElem? (i := 739) (by decide +kernel)⟩
theorem lw_p15 : lw_okq (⟨"GrownTown$LawText", "behindFigures", "(I)I"⟩, 10) := ⟨⟨by decide +kernel, by decide +kernel⟩, List.mem_of_getElem? (i := 245) (by decide +kernel), List.mem_of_getElem? (i := 742) (by decide +kernel), List.mem_of_getElem? (i := 743) (by decide +kernel)⟩
def lw_privs_1 : List (MethodName × Nat) := [(⟨"GrownTown$Board", "measureNear", "()V"⟩, 9), (⟨"GrownTown$Board", "far", "(II)I"⟩, 9), (⟨"GrownTown$Acts", "putNumber", "(II)V"⟩, 5), (⟨"GrownTown$Board", "becomeThing", "(III)V"⟩, 9), (⟨"GrownTown$LawText", "split", "()V"⟩, 10), (⟨"GrownTown$LawText", "isLastOne", "()Z"⟩, 10), (⟨"GrownTown$LawText", "behindBlanks", "(I)I"⟩, 10), (⟨"GrownTown$LawText", "byteAt", "(I)I"⟩, 10), (⟨"GrownTown$LawText", "addTokenAt", "(I)I"⟩, 10), (⟨"GrownTown$LawText", "addToken", "(III)V"⟩, 10), (⟨"GrownTown$LawText", "isLetter", "(I)Z"⟩, 10), (⟨"GrownTown$LawText", "behindLetters", "(I)I"⟩, 10), (⟨"GrownTown$LawText", "addName", "(II)V"⟩, 10), (⟨"GrownTown$LawText", "spells", "(Ljava/lang/String;II)Z"⟩, 10), (⟨"GrownTown$LawText", "isFigure", "(I)Z"⟩, 10), (⟨"GrownTown$LawText", "behindFigures", "(I)I"⟩, 10)]
theorem lw_r1 : ∀ q ∈ lw_privs_1, lw_okq q := List.forall_mem_cons.mpr ⟨lw_p0, List.forall_mem_cons.mpr ⟨lw_p1, List.forall_mem_cons.mpr ⟨lw_p2, List.forall_mem_cons.mpr ⟨lw_p3, List.forall_mem_cons.mpr ⟨lw_p4, List.forall_mem_cons.mpr ⟨lw_p5, List.forall_mem_cons.mpr ⟨lw_p6, List.forall_mem_cons.mpr ⟨lw_p7, List.forall_mem_cons.mpr ⟨lw_p8, List.forall_mem_cons.mpr ⟨lw_p9, List.forall_mem_cons.mpr ⟨lw_p10, List.forall_mem_cons.mpr ⟨lw_p11, List.forall_mem_cons.mpr ⟨lw_p12, List.forall_mem_cons.mpr ⟨lw_p13, List.forall_mem_cons.mpr ⟨lw_p14, List.forall_mem_cons.mpr ⟨lw_p15, fun _ h => absurd h List.not_mem_nil⟩⟩⟩⟩⟩⟩⟩⟩⟩⟩⟩⟩⟩⟩⟩⟩
theorem lw_p16 : lw_okq (⟨"GrownTown$LawText", "addNumber", "(II)V"⟩, 10) := ⟨⟨by decide +kernel, by decide +kernel⟩, List.mem_of_getElem? (i := 245) (by decide +kernel), List.mem_of_getElem? (i := 746) (by decide +kernel), List.mem_of_getElem? (i := 747) (by decide +kernel)⟩
theorem lw_p17 : lw_okq (⟨"GrownTown$LawText", "nextKind", "()I"⟩, 10) := ⟨⟨by decide +kernel, by decide +kernel⟩, List.mem_of_getElem? (i := 245) (by decide +kernel), List.mem_of_getElem? (i := 750) (by decide +kernel), List.mem_of_getElem? (i := 751) (by decide +kernel)⟩
theorem lw_p18 : lw_okq (⟨"GrownTown$LawText", "readLaw", "(LGrownTown$Laws;)Z"⟩, 10) := ⟨⟨by decide +kernel, by decide +kernel⟩, List.mem_of_getElem? (i := 245) (by decide +kernel), List.mem_of_getElem? (i := 754) (by decide +kernel), List.mem_of_getElem? (i := 755) (by decide +kernel)⟩
theorem lw_p19 : lw_okq (⟨"GrownTown$LawText", "isNext", "(III)Z"⟩, 10) := ⟨⟨by decide +kernel, by decide +kernel⟩, List.mem_of_getElem? (i := 245) (by decide +kernel), List.mem_of_getElem? (i := 758) (by decide +kernel), List.mem_of_getElem? (i := 759) (by decide +kernel)⟩
theorem lw_p20 : lw_okq (⟨"GrownTown$LawText", "refuse", "(I)Z"⟩, 10) := ⟨⟨by decide +kernel, by decide +kernel⟩, List.mem_of_getElem? (i := 245) (by decide +kernel), List.mem_of_getElem? (i := 762) (by decide +kernel), List.mem_of_getElem? (i := 763) (by decide +kernel)⟩
theorem lw_p21 : lw_okq (⟨"GrownTown$LawText", "take", "()V"⟩, 10) := ⟨⟨by decide +kernel, by decide +kernel⟩, List.mem_of_getElem? (i := 245) (by decide +kernel), List.mem_of_getElem? (i := 770) (by decide +kernel), List.mem_of_getElem? (i := 771) (by decide +kernel)⟩
theorem lw_p22 : lw_okq (⟨"GrownTown$LawText", "takeNumber", "(II)Z"⟩, 10) := ⟨⟨by decide +kernel, by decide +kernel⟩, List.mem_of_getElem? (i := 245) (by decide +kernel), List.mem_of_getElem? (i := 774) (by decide +kernel), List.mem_of_getElem? (i := 775) (by decide +kernel)⟩
theorem lw_p23 : lw_okq (⟨"GrownTown$LawText", "takeWord", "(II)Z"⟩, 10) := ⟨⟨by decide +kernel, by decide +kernel⟩, List.mem_of_getElem? (i := 245) (by decide +kernel), List.mem_of_getElem? (i := 778) (by decide +kernel), List.mem_of_getElem? (i := 779) (by decide +kernel)⟩
theorem lw_p24 : lw_okq (⟨"GrownTown$LawText", "nextUse", "()I"⟩, 10) := ⟨⟨by decide +kernel, by decide +kernel⟩, List.mem_of_getElem? (i := 245) (by decide +kernel), List.mem_of_getElem? (i := 782) (by decide +kernel), List.mem_of_getElem? (i := 783) (by decide +kernel)⟩
theorem lw_p25 : lw_okq (⟨"GrownTown$LawText", "readNumbers", "(ILGrownTown$Laws;I)Z"⟩, 10) := ⟨⟨by decide +kernel, by decide +kernel⟩, List.mem_of_getElem? (i := 245) (by decide +kernel), List.mem_of_getElem? (i := 804) (by decide +kernel), List.mem_of_getElem? (i := 805) (by decide +kernel)⟩
theorem lw_p26 : lw_okq (⟨"GrownTown$LawText", "readNumber", "(LGrownTown$Laws;IIII)Z"⟩, 10) := ⟨⟨by decide +kernel, by decide +kernel⟩, List.mem_of_getElem? (i := 245) (by decide +kernel), List.mem_of_getElem? (i := 808) (by decide +kernel), List.mem_of_getElem? (i := 809) (by decide +kernel)⟩
theorem lw_p27 : lw_okq (⟨"GrownTown$Seekers", "ask", "(II)Z"⟩, 16) := ⟨⟨by decide +kernel, by decide +kernel⟩, List.mem_of_getElem? (i := 129) (by decide +kernel), List.mem_of_getElem? (i := 962) (by decide +kernel), List.mem_of_getElem? (i := 963) (by decide +kernel)⟩
theorem lw_p28 : lw_okq (⟨"GrownTown$Seekers", "bestPlot", "(II)I"⟩, 16) := ⟨⟨by decide +kernel, by decide +kernel⟩, List.mem_of_getElem? (i := 129) (by decide +kernel), List.mem_of_getElem? (i := 966) (by decide +kernel), List.mem_of_getElem? (i := 967) (by decide +kernel)⟩
theorem lw_p29 : lw_okq (⟨"GrownTown$Seekers", "valueOf", "(II)I"⟩, 16) := ⟨⟨by decide +kernel, by decide +kernel⟩, List.mem_of_getElem? (i := 129) (by decide +kernel), List.mem_of_getElem? (i := 970) (by decide +kernel), List.mem_of_getElem? (i := 971) (by decide +kernel)⟩
theorem lw_p30 : lw_okq (⟨"GrownTown$Seekers", "outbids", "(II)Z"⟩, 16) := ⟨⟨by decide +kernel, by decide +kernel⟩, List.mem_of_getElem? (i := 129) (by decide +kernel), List.mem_of_getElem? (i := 977) (by decide +kernel), List.mem_of_getElem? (i := 978) (by decide +kernel)⟩
theorem lw_p31 : lw_okq (⟨"GrownTown$Town", "settleIn", "()I"⟩, 8) := ⟨⟨by decide +kernel, by decide +kernel⟩, List.mem_of_getElem? (i := 30) (by decide +kernel), List.mem_of_getElem? (i := 993) (by decide +kernel), List.mem_of_getElem? (i := 994) (by decide +kernel)⟩
def lw_privs_2 : List (MethodName × Nat) := [(⟨"GrownTown$LawText", "addNumber", "(II)V"⟩, 10), (⟨"GrownTown$LawText", "nextKind", "()I"⟩, 10), (⟨"GrownTown$LawText", "readLaw", "(LGrownTown$Laws;)Z"⟩, 10), (⟨"GrownTown$LawText", "isNext", "(III)Z"⟩, 10), (⟨"GrownTown$LawText", "refuse", "(I)Z"⟩, 10), (⟨"GrownTown$LawText", "take", "()V"⟩, 10), (⟨"GrownTown$LawText", "takeNumber", "(II)Z"⟩, 10), (⟨"GrownTown$LawText", "takeWord", "(II)Z"⟩, 10), (⟨"GrownTown$LawText", "nextUse", "()I"⟩, 10), (⟨"GrownTown$LawText", "readNumbers", "(ILGrownTown$Laws;I)Z"⟩, 10), (⟨"GrownTown$LawText", "readNumber", "(LGrownTown$Laws;IIII)Z"⟩, 10), (⟨"GrownTown$Seekers", "ask", "(II)Z"⟩, 16), (⟨"GrownTown$Seekers", "bestPlot", "(II)I"⟩, 16), (⟨"GrownTown$Seekers", "valueOf", "(II)I"⟩, 16), (⟨"GrownTown$Seekers", "outbids", "(II)Z"⟩, 16), (⟨"GrownTown$Town", "settleIn", "()I"⟩, 8)]
theorem lw_r2 : ∀ q ∈ lw_privs_2, lw_okq q := List.forall_mem_cons.mpr ⟨lw_p16, List.forall_mem_cons.mpr ⟨lw_p17, List.forall_mem_cons.mpr ⟨lw_p18, List.forall_mem_cons.mpr ⟨lw_p19, List.forall_mem_cons.mpr ⟨lw_p20, List.forall_mem_cons.mpr ⟨lw_p21, List.forall_mem_cons.mpr ⟨lw_p22, List.forall_mem_cons.mpr ⟨lw_p23, List.forall_mem_cons.mpr ⟨lw_p24, List.forall_mem_cons.mpr ⟨lw_p25, List.forall_mem_cons.mpr ⟨lw_p26, List.forall_mem_cons.mpr ⟨lw_p27, List.forall_mem_cons.mpr ⟨lw_p28, List.forall_mem_cons.mpr ⟨lw_p29, List.forall_mem_cons.mpr ⟨lw_p30, List.forall_mem_cons.mpr ⟨lw_p31, fun _ h => absurd h List.not_mem_nil⟩⟩⟩⟩⟩⟩⟩⟩⟩⟩⟩⟩⟩⟩⟩⟩
theorem lw_p32 : lw_okq (⟨"GrownTown$Town", "takeTaxes", "()I"⟩, 8) := ⟨⟨by decide +kernel, by decide +kernel⟩, List.mem_of_getElem? (i := 30) (by decide +kernel), List.mem_of_getElem? (i := 1006) (by decide +kernel), List.mem_of_getElem? (i := 1007) (by decide +kernel)⟩
theorem lw_p33 : lw_okq (⟨"GrownTown$Town", "sendAway", "()I"⟩, 8) := ⟨⟨by decide +kernel, by decide +kernel⟩, List.mem_of_getElem? (i := 30) (by decide +kernel), List.mem_of_getElem? (i := 1017) (by decide +kernel), List.mem_of_getElem? (i := 1018) (by decide +kernel)⟩
theorem lw_p34 : lw_okq (⟨"GrownTown$Town", "putFigure", "(II)V"⟩, 8) := ⟨⟨by decide +kernel, by decide +kernel⟩, List.mem_of_getElem? (i := 30) (by decide +kernel), List.mem_of_getElem? (i := 1021) (by decide +kernel), List.mem_of_getElem? (i := 1022) (by decide +kernel)⟩
theorem lw_p35 : lw_okq (⟨"GrownTown", "growAnew", "(I)V"⟩, 10) := ⟨⟨by decide +kernel, by decide +kernel⟩, List.mem_of_getElem? (i := 22) (by decide +kernel), List.mem_of_getElem? (i := 1056) (by decide +kernel), List.mem_of_getElem? (i := 1057) (by decide +kernel)⟩
theorem lw_p36 : lw_okq (⟨"GrownTown$Acts", "has", "(I)Z"⟩, 5) := ⟨⟨by decide +kernel, by decide +kernel⟩, List.mem_of_getElem? (i := 220) (by decide +kernel), List.mem_of_getElem? (i := 1064) (by decide +kernel), List.mem_of_getElem? (i := 1065) (by decide +kernel)⟩
theorem lw_p37 : lw_okq (⟨"GrownTown$Acts", "number", "(II)I"⟩, 5) := ⟨⟨by decide +kernel, by decide +kernel⟩, List.mem_of_getElem? (i := 220) (by decide +kernel), List.mem_of_getElem? (i := 1072) (by decide +kernel), List.mem_of_getElem? (i := 1073) (by decide +kernel)⟩
theorem lw_p38 : lw_okq (⟨"GrownTown", "differs", "(I)Z"⟩, 10) := ⟨⟨by decide +kernel, by decide +kernel⟩, List.mem_of_getElem? (i := 22) (by decide +kernel), List.mem_of_getElem? (i := 1082) (by decide +kernel), List.mem_of_getElem? (i := 1083) (by decide +kernel)⟩
theorem lw_p39 : lw_okq (⟨"GrownTown", "canStop", "(I)Z"⟩, 10) := ⟨⟨by decide +kernel, by decide +kernel⟩, List.mem_of_getElem? (i := 22) (by decide +kernel), List.mem_of_getElem? (i := 1094) (by decide +kernel), List.mem_of_getElem? (i := 1095) (by decide +kernel)⟩
theorem lw_p40 : lw_okq (⟨"GrownTown$Ways", "stopPlot", "(I)I"⟩, 15) := ⟨⟨by decide +kernel, by decide +kernel⟩, List.mem_of_getElem? (i := 287) (by decide +kernel), List.mem_of_getElem? (i := 1119) (by decide +kernel), List.mem_of_getElem? (i := 1120) (by decide +kernel)⟩
theorem lw_p41 : lw_okq (⟨"GrownTown$Ways", "layOut", "()V"⟩, 15) := ⟨⟨by decide +kernel, by decide +kernel⟩, List.mem_of_getElem? (i := 287) (by decide +kernel), List.mem_of_getElem? (i := 1133) (by decide +kernel), List.mem_of_getElem? (i := 1134) (by decide +kernel)⟩
theorem lw_p42 : lw_okq (⟨"GrownTown$Ways", "bareStep", "(II)I"⟩, 15) := ⟨⟨by decide +kernel, by decide +kernel⟩, List.mem_of_getElem? (i := 287) (by decide +kernel), List.mem_of_getElem? (i := 1142) (by decide +kernel), List.mem_of_getElem? (i := 1143) (by decide +kernel)⟩
theorem lw_p43 : lw_okq (⟨"GrownTown$Ways", "nearest", "()I"⟩, 15) := ⟨⟨by decide +kernel, by decide +kernel⟩, List.mem_of_getElem? (i := 287) (by decide +kernel), List.mem_of_getElem? (i := 1149) (by decide +kernel), List.mem_of_getElem? (i := 1150) (by decide +kernel)⟩
theorem lw_p44 : lw_okq (⟨"GrownTown$Ways", "reachPlot", "(I)V"⟩, 15) := ⟨⟨by decide +kernel, by decide +kernel⟩, List.mem_of_getElem? (i := 287) (by decide +kernel), List.mem_of_getElem? (i := 1153) (by decide +kernel), List.mem_of_getElem? (i := 1154) (by decide +kernel)⟩
theorem lw_p45 : lw_okq (⟨"GrownTown$Ways", "stepEnd", "(II)I"⟩, 15) := ⟨⟨by decide +kernel, by decide +kernel⟩, List.mem_of_getElem? (i := 287) (by decide +kernel), List.mem_of_getElem? (i := 1161) (by decide +kernel), List.mem_of_getElem? (i := 1162) (by decide +kernel)⟩
theorem lw_p46 : lw_okq (⟨"GrownTown$Ways", "stepTime", "(II)I"⟩, 15) := ⟨⟨by decide +kernel, by decide +kernel⟩, List.mem_of_getElem? (i := 287) (by decide +kernel), List.mem_of_getElem? (i := 1165) (by decide +kernel), List.mem_of_getElem? (i := 1166) (by decide +kernel)⟩
theorem lw_p47 : lw_okq (⟨"GrownTown$Ways", "shorten", "(II)V"⟩, 15) := ⟨⟨by decide +kernel, by decide +kernel⟩, List.mem_of_getElem? (i := 287) (by decide +kernel), List.mem_of_getElem? (i := 1169) (by decide +kernel), List.mem_of_getElem? (i := 1170) (by decide +kernel)⟩
def lw_privs_3 : List (MethodName × Nat) := [(⟨"GrownTown$Town", "takeTaxes", "()I"⟩, 8), (⟨"GrownTown$Town", "sendAway", "()I"⟩, 8), (⟨"GrownTown$Town", "putFigure", "(II)V"⟩, 8), (⟨"GrownTown", "growAnew", "(I)V"⟩, 10), (⟨"GrownTown$Acts", "has", "(I)Z"⟩, 5), (⟨"GrownTown$Acts", "number", "(II)I"⟩, 5), (⟨"GrownTown", "differs", "(I)Z"⟩, 10), (⟨"GrownTown", "canStop", "(I)Z"⟩, 10), (⟨"GrownTown$Ways", "stopPlot", "(I)I"⟩, 15), (⟨"GrownTown$Ways", "layOut", "()V"⟩, 15), (⟨"GrownTown$Ways", "bareStep", "(II)I"⟩, 15), (⟨"GrownTown$Ways", "nearest", "()I"⟩, 15), (⟨"GrownTown$Ways", "reachPlot", "(I)V"⟩, 15), (⟨"GrownTown$Ways", "stepEnd", "(II)I"⟩, 15), (⟨"GrownTown$Ways", "stepTime", "(II)I"⟩, 15), (⟨"GrownTown$Ways", "shorten", "(II)V"⟩, 15)]
theorem lw_r3 : ∀ q ∈ lw_privs_3, lw_okq q := List.forall_mem_cons.mpr ⟨lw_p32, List.forall_mem_cons.mpr ⟨lw_p33, List.forall_mem_cons.mpr ⟨lw_p34, List.forall_mem_cons.mpr ⟨lw_p35, List.forall_mem_cons.mpr ⟨lw_p36, List.forall_mem_cons.mpr ⟨lw_p37, List.forall_mem_cons.mpr ⟨lw_p38, List.forall_mem_cons.mpr ⟨lw_p39, List.forall_mem_cons.mpr ⟨lw_p40, List.forall_mem_cons.mpr ⟨lw_p41, List.forall_mem_cons.mpr ⟨lw_p42, List.forall_mem_cons.mpr ⟨lw_p43, List.forall_mem_cons.mpr ⟨lw_p44, List.forall_mem_cons.mpr ⟨lw_p45, List.forall_mem_cons.mpr ⟨lw_p46, List.forall_mem_cons.mpr ⟨lw_p47, fun _ h => absurd h List.not_mem_nil⟩⟩⟩⟩⟩⟩⟩⟩⟩⟩⟩⟩⟩⟩⟩⟩
theorem lw_p48 : lw_okq (⟨"GrownTown$Ways", "reachAboard", "(I)V"⟩, 15) := ⟨⟨by decide +kernel, by decide +kernel⟩, List.mem_of_getElem? (i := 287) (by decide +kernel), List.mem_of_getElem? (i := 1173) (by decide +kernel), List.mem_of_getElem? (i := 1174) (by decide +kernel)⟩
theorem lw_p49 : lw_okq (⟨"GrownTown$Ways", "nextStop", "(II)I"⟩, 15) := ⟨⟨by decide +kernel, by decide +kernel⟩, List.mem_of_getElem? (i := 287) (by decide +kernel), List.mem_of_getElem? (i := 1177) (by decide +kernel), List.mem_of_getElem? (i := 1178) (by decide +kernel)⟩
theorem lw_p50 : lw_okq (⟨"GrownTown$Ways", "changeAt", "(I)V"⟩, 15) := ⟨⟨by decide +kernel, by decide +kernel⟩, List.mem_of_getElem? (i := 287) (by decide +kernel), List.mem_of_getElem? (i := 1195) (by decide +kernel), List.mem_of_getElem? (i := 1196) (by decide +kernel)⟩
theorem lw_p51 : lw_okq (⟨"GrownTown$Ways", "isAboard", "(I)Z"⟩, 15) := ⟨⟨by decide +kernel, by decide +kernel⟩, List.mem_of_getElem? (i := 287) (by decide +kernel), List.mem_of_getElem? (i := 1199) (by decide +kernel), List.mem_of_getElem? (i := 1200) (by decide +kernel)⟩
theorem lw_p52 : lw_okq (⟨"GrownTown$Ways", "nextPlot", "(I)I"⟩, 15) := ⟨⟨by decide +kernel, by decide +kernel⟩, List.mem_of_getElem? (i := 287) (by decide +kernel), List.mem_of_getElem? (i := 1203) (by decide +kernel), List.mem_of_getElem? (i := 1204) (by decide +kernel)⟩
theorem lw_p53 : lw_okq (⟨"GrownTown$Ways", "isStepOn", "(II)Z"⟩, 15) := ⟨⟨by decide +kernel, by decide +kernel⟩, List.mem_of_getElem? (i := 287) (by decide +kernel), List.mem_of_getElem? (i := 1207) (by decide +kernel), List.mem_of_getElem? (i := 1208) (by decide +kernel)⟩
theorem lw_p54 : lw_okq (⟨"GrownTown$Ways", "isRideOn", "(II)Z"⟩, 15) := ⟨⟨by decide +kernel, by decide +kernel⟩, List.mem_of_getElem? (i := 287) (by decide +kernel), List.mem_of_getElem? (i := 1212) (by decide +kernel), List.mem_of_getElem? (i := 1213) (by decide +kernel)⟩
theorem lw_p55 : lw_okq (⟨"GrownTown$Ways", "goOn", "(II)V"⟩, 15) := ⟨⟨by decide +kernel, by decide +kernel⟩, List.mem_of_getElem? (i := 287) (by decide +kernel), List.mem_of_getElem? (i := 1216) (by decide +kernel), List.mem_of_getElem? (i := 1217) (by decide +kernel)⟩
theorem lw_p56 : lw_okq (⟨"GrownTown$Trips", "begin", "()V"⟩, 13) := ⟨⟨by decide +kernel, by decide +kernel⟩, List.mem_of_getElem? (i := 342) (by decide +kernel), List.mem_of_getElem? (i := 1245) (by decide +kernel), List.mem_of_getElem? (i := 1246) (by decide +kernel)⟩
theorem lw_p57 : lw_okq (⟨"GrownTown$Trips", "keepTraced", "(I)V"⟩, 13) := ⟨⟨by decide +kernel, by decide +kernel⟩, List.mem_of_getElem? (i := 342) (by decide +kernel), List.mem_of_getElem? (i := 1257) (by decide +kernel), List.mem_of_getElem? (i := 1258) (by decide +kernel)⟩
theorem lw_p58 : lw_okq (⟨"GrownTown$Trips", "has", "(I)Z"⟩, 13) := ⟨⟨by decide +kernel, by decide +kernel⟩, List.mem_of_getElem? (i := 342) (by decide +kernel), List.mem_of_getElem? (i := 1261) (by decide +kernel), List.mem_of_getElem? (i := 1262) (by decide +kernel)⟩
theorem lw_p59 : lw_okq (⟨"GrownTown$Trips", "addCrowd", "(II)V"⟩, 13) := ⟨⟨by decide +kernel, by decide +kernel⟩, List.mem_of_getElem? (i := 342) (by decide +kernel), List.mem_of_getElem? (i := 1267) (by decide +kernel), List.mem_of_getElem? (i := 1268) (by decide +kernel)⟩
theorem lw_p60 : lw_okq (⟨"GrownTown$Ways", "sideTo", "(II)I"⟩, 15) := ⟨⟨by decide +kernel, by decide +kernel⟩, List.mem_of_getElem? (i := 287) (by decide +kernel), List.mem_of_getElem? (i := 1283) (by decide +kernel), List.mem_of_getElem? (i := 1284) (by decide +kernel)⟩
theorem lw_p61 : lw_okq (⟨"GrownTown$Trips", "goRound", "()Z"⟩, 13) := ⟨⟨by decide +kernel, by decide +kernel⟩, List.mem_of_getElem? (i := 342) (by decide +kernel), List.mem_of_getElem? (i := 1287) (by decide +kernel), List.mem_of_getElem? (i := 1288) (by decide +kernel)⟩
theorem lw_p62 : lw_okq (⟨"GrownTown$Trips", "timeOfWay", "(I)I"⟩, 13) := ⟨⟨by decide +kernel, by decide +kernel⟩, List.mem_of_getElem? (i := 342) (by decide +kernel), List.mem_of_getElem? (i := 1295) (by decide +kernel), List.mem_of_getElem? (i := 1296) (by decide +kernel)⟩
theorem lw_p63 : lw_okq (⟨"GrownTown$Plans", "costOf", "(I)I"⟩, 7) := ⟨⟨by decide +kernel, by decide +kernel⟩, List.mem_of_getElem? (i := 391) (by decide +kernel), List.mem_of_getElem? (i := 1342) (by decide +kernel), List.mem_of_getElem? (i := 1343) (by decide +kernel)⟩
def lw_privs_4 : List (MethodName × Nat) := [(⟨"GrownTown$Ways", "reachAboard", "(I)V"⟩, 15), (⟨"GrownTown$Ways", "nextStop", "(II)I"⟩, 15), (⟨"GrownTown$Ways", "changeAt", "(I)V"⟩, 15), (⟨"GrownTown$Ways", "isAboard", "(I)Z"⟩, 15), (⟨"GrownTown$Ways", "nextPlot", "(I)I"⟩, 15), (⟨"GrownTown$Ways", "isStepOn", "(II)Z"⟩, 15), (⟨"GrownTown$Ways", "isRideOn", "(II)Z"⟩, 15), (⟨"GrownTown$Ways", "goOn", "(II)V"⟩, 15), (⟨"GrownTown$Trips", "begin", "()V"⟩, 13), (⟨"GrownTown$Trips", "keepTraced", "(I)V"⟩, 13), (⟨"GrownTown$Trips", "has", "(I)Z"⟩, 13), (⟨"GrownTown$Trips", "addCrowd", "(II)V"⟩, 13), (⟨"GrownTown$Ways", "sideTo", "(II)I"⟩, 15), (⟨"GrownTown$Trips", "goRound", "()Z"⟩, 13), (⟨"GrownTown$Trips", "timeOfWay", "(I)I"⟩, 13), (⟨"GrownTown$Plans", "costOf", "(I)I"⟩, 7)]
theorem lw_r4 : ∀ q ∈ lw_privs_4, lw_okq q := List.forall_mem_cons.mpr ⟨lw_p48, List.forall_mem_cons.mpr ⟨lw_p49, List.forall_mem_cons.mpr ⟨lw_p50, List.forall_mem_cons.mpr ⟨lw_p51, List.forall_mem_cons.mpr ⟨lw_p52, List.forall_mem_cons.mpr ⟨lw_p53, List.forall_mem_cons.mpr ⟨lw_p54, List.forall_mem_cons.mpr ⟨lw_p55, List.forall_mem_cons.mpr ⟨lw_p56, List.forall_mem_cons.mpr ⟨lw_p57, List.forall_mem_cons.mpr ⟨lw_p58, List.forall_mem_cons.mpr ⟨lw_p59, List.forall_mem_cons.mpr ⟨lw_p60, List.forall_mem_cons.mpr ⟨lw_p61, List.forall_mem_cons.mpr ⟨lw_p62, List.forall_mem_cons.mpr ⟨lw_p63, fun _ h => absurd h List.not_mem_nil⟩⟩⟩⟩⟩⟩⟩⟩⟩⟩⟩⟩⟩⟩⟩⟩
theorem lw_p64 : lw_okq (⟨"GrownTown$Plans", "isIn", "(II)Z"⟩, 7) := ⟨⟨by decide +kernel, by decide +kernel⟩, List.mem_of_getElem? (i := 391) (by decide +kernel), List.mem_of_getElem? (i := 1346) (by decide +kernel), List.mem_of_getElem? (i := 1347) (by decide +kernel)⟩
theorem lw_p65 : lw_okq (⟨"GrownTown$Plans", "has", "(I)Z"⟩, 7) := ⟨⟨by decide +kernel, by decide +kernel⟩, List.mem_of_getElem? (i := 391) (by decide +kernel), List.mem_of_getElem? (i := 1350) (by decide +kernel), List.mem_of_getElem? (i := 1351) (by decide +kernel)⟩
theorem lw_p66 : lw_okq (⟨"GrownTown$Plans", "canBe", "(ILGrownTown$Board;)Z"⟩, 7) := ⟨⟨by decide +kernel, by decide +kernel⟩, List.mem_of_getElem? (i := 391) (by decide +kernel), List.mem_of_getElem? (i := 1354) (by decide +kernel), List.mem_of_getElem? (i := 1355) (by decide +kernel)⟩
theorem lw_p67 : lw_okq (⟨"GrownTown$Plans", "sumAfter", "(ILGrownTown$Town;)I"⟩, 7) := ⟨⟨by decide +kernel, by decide +kernel⟩, List.mem_of_getElem? (i := 391) (by decide +kernel), List.mem_of_getElem? (i := 1364) (by decide +kernel), List.mem_of_getElem? (i := 1365) (by decide +kernel)⟩
theorem lw_p68 : lw_okq (⟨"GrownTown", "faultOfCells", "(II)I"⟩, 10) := ⟨⟨by decide +kernel, by decide +kernel⟩, List.mem_of_getElem? (i := 22) (by decide +kernel), List.mem_of_getElem? (i := 1449) (by decide +kernel), List.mem_of_getElem? (i := 1450) (by decide +kernel)⟩
theorem lw_p69 : lw_okq (⟨"GrownTown", "groundIsRefused", "(II)Z"⟩, 10) := ⟨⟨by decide +kernel, by decide +kernel⟩, List.mem_of_getElem? (i := 22) (by decide +kernel), List.mem_of_getElem? (i := 1457) (by decide +kernel), List.mem_of_getElem? (i := 1458) (by decide +kernel)⟩
theorem lw_p70 : lw_okq (⟨"GrownTown", "newGround", "(III)Z"⟩, 10) := ⟨⟨by decide +kernel, by decide +kernel⟩, List.mem_of_getElem? (i := 22) (by decide +kernel), List.mem_of_getElem? (i := 1461) (by decide +kernel), List.mem_of_getElem? (i := 1462) (by decide +kernel)⟩
theorem lw_p71 : lw_okq (⟨"GrownTown", "actsToDraw", "(II)I"⟩, 10) := ⟨⟨by decide +kernel, by decide +kernel⟩, List.mem_of_getElem? (i := 22) (by decide +kernel), List.mem_of_getElem? (i := 1465) (by decide +kernel), List.mem_of_getElem? (i := 1466) (by decide +kernel)⟩
theorem lw_p72 : lw_okq (⟨"GrownTown", "newHeight", "(III)Z"⟩, 10) := ⟨⟨by decide +kernel, by decide +kernel⟩, List.mem_of_getElem? (i := 22) (by decide +kernel), List.mem_of_getElem? (i := 1469) (by decide +kernel), List.mem_of_getElem? (i := 1470) (by decide +kernel)⟩
theorem lw_p73 : lw_okq (⟨"GrownTown", "drawPlots", "(II)I"⟩, 10) := ⟨⟨by decide +kernel, by decide +kernel⟩, List.mem_of_getElem? (i := 22) (by decide +kernel), List.mem_of_getElem? (i := 1473) (by decide +kernel), List.mem_of_getElem? (i := 1474) (by decide +kernel)⟩
theorem lw_p74 : lw_okq (⟨"GrownTownModel", "clearTown", "()V"⟩, 79) := ⟨⟨by decide +kernel, by decide +kernel⟩, List.mem_of_getElem? (i := 1485) (by decide +kernel), List.mem_of_getElem? (i := 1738) (by decide +kernel), List.mem_of_getElem? (i := 1739) (by decide +kernel)⟩
theorem lw_p75 : lw_okq (⟨"GrownTownModel", "isPlot", "(I)Z"⟩, 79) := ⟨⟨by decide +kernel, by decide +kernel⟩, List.mem_of_getElem? (i := 1485) (by decide +kernel), List.mem_of_getElem? (i := 1746) (by decide +kernel), List.mem_of_getElem? (i := 1747) (by decide +kernel)⟩
theorem lw_p76 : lw_okq (⟨"GrownTownModel", "plots", "()I"⟩, 79) := ⟨⟨by decide +kernel, by decide +kernel⟩, List.mem_of_getElem? (i := 1485) (by decide +kernel), List.mem_of_getElem? (i := 1750) (by decide +kernel), List.mem_of_getElem? (i := 1751) (by decide +kernel)⟩
theorem lw_p77 : lw_okq (⟨"GrownTownModel", "record", "(IIIII)V"⟩, 79) := ⟨⟨by decide +kernel, by decide +kernel⟩, List.mem_of_getElem? (i := 1485) (by decide +kernel), List.mem_of_getElem? (i := 1755) (by decide +kernel), List.mem_of_getElem? (i := 1756) (by decide +kernel)⟩
theorem lw_p78 : lw_okq (⟨"GrownTownModel", "free", "(I)V"⟩, 79) := ⟨⟨by decide +kernel, by decide +kernel⟩, List.mem_of_getElem? (i := 1485) (by decide +kernel), List.mem_of_getElem? (i := 1769) (by decide +kernel), List.mem_of_getElem? (i := 1770) (by decide +kernel)⟩
theorem lw_p79 : lw_okq (⟨"GrownTownModel", "next", "()V"⟩, 79) := ⟨⟨by decide +kernel, by decide +kernel⟩, List.mem_of_getElem? (i := 1485) (by decide +kernel), List.mem_of_getElem? (i := 1789) (by decide +kernel), List.mem_of_getElem? (i := 1790) (by decide +kernel)⟩
def lw_privs_5 : List (MethodName × Nat) := [(⟨"GrownTown$Plans", "isIn", "(II)Z"⟩, 7), (⟨"GrownTown$Plans", "has", "(I)Z"⟩, 7), (⟨"GrownTown$Plans", "canBe", "(ILGrownTown$Board;)Z"⟩, 7), (⟨"GrownTown$Plans", "sumAfter", "(ILGrownTown$Town;)I"⟩, 7), (⟨"GrownTown", "faultOfCells", "(II)I"⟩, 10), (⟨"GrownTown", "groundIsRefused", "(II)Z"⟩, 10), (⟨"GrownTown", "newGround", "(III)Z"⟩, 10), (⟨"GrownTown", "actsToDraw", "(II)I"⟩, 10), (⟨"GrownTown", "newHeight", "(III)Z"⟩, 10), (⟨"GrownTown", "drawPlots", "(II)I"⟩, 10), (⟨"GrownTownModel", "clearTown", "()V"⟩, 79), (⟨"GrownTownModel", "isPlot", "(I)Z"⟩, 79), (⟨"GrownTownModel", "plots", "()I"⟩, 79), (⟨"GrownTownModel", "record", "(IIIII)V"⟩, 79), (⟨"GrownTownModel", "free", "(I)V"⟩, 79), (⟨"GrownTownModel", "next", "()V"⟩, 79)]
theorem lw_r5 : ∀ q ∈ lw_privs_5, lw_okq q := List.forall_mem_cons.mpr ⟨lw_p64, List.forall_mem_cons.mpr ⟨lw_p65, List.forall_mem_cons.mpr ⟨lw_p66, List.forall_mem_cons.mpr ⟨lw_p67, List.forall_mem_cons.mpr ⟨lw_p68, List.forall_mem_cons.mpr ⟨lw_p69, List.forall_mem_cons.mpr ⟨lw_p70, List.forall_mem_cons.mpr ⟨lw_p71, List.forall_mem_cons.mpr ⟨lw_p72, List.forall_mem_cons.mpr ⟨lw_p73, List.forall_mem_cons.mpr ⟨lw_p74, List.forall_mem_cons.mpr ⟨lw_p75, List.forall_mem_cons.mpr ⟨lw_p76, List.forall_mem_cons.mpr ⟨lw_p77, List.forall_mem_cons.mpr ⟨lw_p78, List.forall_mem_cons.mpr ⟨lw_p79, fun _ h => absurd h List.not_mem_nil⟩⟩⟩⟩⟩⟩⟩⟩⟩⟩⟩⟩⟩⟩⟩⟩
theorem lw_p80 : lw_okq (⟨"GrownTownModel", "byteAt", "(I)I"⟩, 79) := ⟨⟨by decide +kernel, by decide +kernel⟩, List.mem_of_getElem? (i := 1485) (by decide +kernel), List.mem_of_getElem? (i := 1793) (by decide +kernel), List.mem_of_getElem? (i := 1794) (by decide +kernel)⟩
theorem lw_p81 : lw_okq (⟨"GrownTownModel", "nameAt", "(II)I"⟩, 79) := ⟨⟨by decide +kernel, by decide +kernel⟩, List.mem_of_getElem? (i := 1485) (by decide +kernel), List.mem_of_getElem? (i := 1799) (by decide +kernel), List.mem_of_getElem? (i := 1800) (by decide +kernel)⟩
theorem lw_p82 : lw_okq (⟨"GrownTownModel", "fails", "(I)V"⟩, 79) := ⟨⟨by decide +kernel, by decide +kernel⟩, List.mem_of_getElem? (i := 1485) (by decide +kernel), List.mem_of_getElem? (i := 1803) (by decide +kernel), List.mem_of_getElem? (i := 1804) (by decide +kernel)⟩
theorem lw_p83 : lw_okq (⟨"GrownTownModel", "oneLaw", "()V"⟩, 79) := ⟨⟨by decide +kernel, by decide +kernel⟩, List.mem_of_getElem? (i := 1485) (by decide +kernel), List.mem_of_getElem? (i := 1809) (by decide +kernel), List.mem_of_getElem? (i := 1810) (by decide +kernel)⟩
theorem lw_p84 : lw_okq (⟨"GrownTownModel", "number", "(II)I"⟩, 79) := ⟨⟨by decide +kernel, by decide +kernel⟩, List.mem_of_getElem? (i := 1485) (by decide +kernel), List.mem_of_getElem? (i := 1814) (by decide +kernel), List.mem_of_getElem? (i := 1815) (by decide +kernel)⟩
theorem lw_p85 : lw_okq (⟨"GrownTownModel", "isToldAlready", "(III)Z"⟩, 79) := ⟨⟨by decide +kernel, by decide +kernel⟩, List.mem_of_getElem? (i := 1485) (by decide +kernel), List.mem_of_getElem? (i := 1819) (by decide +kernel), List.mem_of_getElem? (i := 1820) (by decide +kernel)⟩
theorem lw_p86 : lw_okq (⟨"GrownTownModel", "behind", "(III)V"⟩, 79) := ⟨⟨by decide +kernel, by decide +kernel⟩, List.mem_of_getElem? (i := 1485) (by decide +kernel), List.mem_of_getElem? (i := 1823) (by decide +kernel), List.mem_of_getElem? (i := 1824) (by decide +kernel)⟩
theorem lw_p87 : lw_okq (⟨"GrownTownModel", "holds", "(II)Z"⟩, 79) := ⟨⟨by decide +kernel, by decide +kernel⟩, List.mem_of_getElem? (i := 1485) (by decide +kernel), List.mem_of_getElem? (i := 1836) (by decide +kernel), List.mem_of_getElem? (i := 1837) (by decide +kernel)⟩
theorem lw_p88 : lw_okq (⟨"GrownTownModel", "worthOf", "(III)I"⟩, 79) := ⟨⟨by decide +kernel, by decide +kernel⟩, List.mem_of_getElem? (i := 1485) (by decide +kernel), List.mem_of_getElem? (i := 1844) (by decide +kernel), List.mem_of_getElem? (i := 1845) (by decide +kernel)⟩
theorem lw_p89 : lw_okq (⟨"GrownTownModel", "adds", "(IIII)I"⟩, 79) := ⟨⟨by decide +kernel, by decide +kernel⟩, List.mem_of_getElem? (i := 1485) (by decide +kernel), List.mem_of_getElem? (i := 1848) (by decide +kernel), List.mem_of_getElem? (i := 1849) (by decide +kernel)⟩
theorem lw_p90 : lw_okq (⟨"GrownTownModel", "farOf", "(II)I"⟩, 79) := ⟨⟨by decide +kernel, by decide +kernel⟩, List.mem_of_getElem? (i := 1485) (by decide +kernel), List.mem_of_getElem? (i := 1852) (by decide +kernel), List.mem_of_getElem? (i := 1853) (by decide +kernel)⟩
theorem lw_p91 : lw_okq (⟨"GrownTownModel", "mayBe", "(III)Z"⟩, 79) := ⟨⟨by decide +kernel, by decide +kernel⟩, List.mem_of_getElem? (i := 1485) (by decide +kernel), List.mem_of_getElem? (i := 1865) (by decide +kernel), List.mem_of_getElem? (i := 1866) (by decide +kernel)⟩
theorem lw_p92 : lw_okq (⟨"GrownTownModel", "limit", "(III)I"⟩, 79) := ⟨⟨by decide +kernel, by decide +kernel⟩, List.mem_of_getElem? (i := 1485) (by decide +kernel), List.mem_of_getElem? (i := 1869) (by decide +kernel), List.mem_of_getElem? (i := 1870) (by decide +kernel)⟩
theorem lw_p93 : lw_okq (⟨"GrownTownModel", "usesOf", "(I)I"⟩, 79) := ⟨⟨by decide +kernel, by decide +kernel⟩, List.mem_of_getElem? (i := 1485) (by decide +kernel), List.mem_of_getElem? (i := 1873) (by decide +kernel), List.mem_of_getElem? (i := 1874) (by decide +kernel)⟩
theorem lw_p94 : lw_okq (⟨"GrownTownModel", "comes", "(IIII)V"⟩, 79) := ⟨⟨by decide +kernel, by decide +kernel⟩, List.mem_of_getElem? (i := 1485) (by decide +kernel), List.mem_of_getElem? (i := 1884) (by decide +kernel), List.mem_of_getElem? (i := 1885) (by decide +kernel)⟩
theorem lw_p95 : lw_okq (⟨"GrownTownModel", "isSeeker", "(I)Z"⟩, 79) := ⟨⟨by decide +kernel, by decide +kernel⟩, List.mem_of_getElem? (i := 1485) (by decide +kernel), List.mem_of_getElem? (i := 1892) (by decide +kernel), List.mem_of_getElem? (i := 1893) (by decide +kernel)⟩
def lw_privs_6 : List (MethodName × Nat) := [(⟨"GrownTownModel", "byteAt", "(I)I"⟩, 79), (⟨"GrownTownModel", "nameAt", "(II)I"⟩, 79), (⟨"GrownTownModel", "fails", "(I)V"⟩, 79), (⟨"GrownTownModel", "oneLaw", "()V"⟩, 79), (⟨"GrownTownModel", "number", "(II)I"⟩, 79), (⟨"GrownTownModel", "isToldAlready", "(III)Z"⟩, 79), (⟨"GrownTownModel", "behind", "(III)V"⟩, 79), (⟨"GrownTownModel", "holds", "(II)Z"⟩, 79), (⟨"GrownTownModel", "worthOf", "(III)I"⟩, 79), (⟨"GrownTownModel", "adds", "(IIII)I"⟩, 79), (⟨"GrownTownModel", "farOf", "(II)I"⟩, 79), (⟨"GrownTownModel", "mayBe", "(III)Z"⟩, 79), (⟨"GrownTownModel", "limit", "(III)I"⟩, 79), (⟨"GrownTownModel", "usesOf", "(I)I"⟩, 79), (⟨"GrownTownModel", "comes", "(IIII)V"⟩, 79), (⟨"GrownTownModel", "isSeeker", "(I)Z"⟩, 79)]
theorem lw_r6 : ∀ q ∈ lw_privs_6, lw_okq q := List.forall_mem_cons.mpr ⟨lw_p80, List.forall_mem_cons.mpr ⟨lw_p81, List.forall_mem_cons.mpr ⟨lw_p82, List.forall_mem_cons.mpr ⟨lw_p83, List.forall_mem_cons.mpr ⟨lw_p84, List.forall_mem_cons.mpr ⟨lw_p85, List.forall_mem_cons.mpr ⟨lw_p86, List.forall_mem_cons.mpr ⟨lw_p87, List.forall_mem_cons.mpr ⟨lw_p88, List.forall_mem_cons.mpr ⟨lw_p89, List.forall_mem_cons.mpr ⟨lw_p90, List.forall_mem_cons.mpr ⟨lw_p91, List.forall_mem_cons.mpr ⟨lw_p92, List.forall_mem_cons.mpr ⟨lw_p93, List.forall_mem_cons.mpr ⟨lw_p94, List.forall_mem_cons.mpr ⟨lw_p95, fun _ h => absurd h List.not_mem_nil⟩⟩⟩⟩⟩⟩⟩⟩⟩⟩⟩⟩⟩⟩⟩⟩
theorem lw_p96 : lw_okq (⟨"GrownTownModel", "seeks", "(I)Z"⟩, 79) := ⟨⟨by decide +kernel, by decide +kernel⟩, List.mem_of_getElem? (i := 1485) (by decide +kernel), List.mem_of_getElem? (i := 1900) (by decide +kernel), List.mem_of_getElem? (i := 1901) (by decide +kernel)⟩
theorem lw_p97 : lw_okq (⟨"GrownTownModel", "settleBids", "()V"⟩, 79) := ⟨⟨by decide +kernel, by decide +kernel⟩, List.mem_of_getElem? (i := 1485) (by decide +kernel), List.mem_of_getElem? (i := 1904) (by decide +kernel), List.mem_of_getElem? (i := 1905) (by decide +kernel)⟩
theorem lw_p98 : lw_okq (⟨"GrownTownModel", "asks", "(I)I"⟩, 79) := ⟨⟨by decide +kernel, by decide +kernel⟩, List.mem_of_getElem? (i := 1485) (by decide +kernel), List.mem_of_getElem? (i := 1908) (by decide +kernel), List.mem_of_getElem? (i := 1909) (by decide +kernel)⟩
theorem lw_p99 : lw_okq (⟨"GrownTownModel", "valueOf", "(II)I"⟩, 79) := ⟨⟨by decide +kernel, by decide +kernel⟩, List.mem_of_getElem? (i := 1485) (by decide +kernel), List.mem_of_getElem? (i := 1912) (by decide +kernel), List.mem_of_getElem? (i := 1913) (by decide +kernel)⟩
theorem lw_p100 : lw_okq (⟨"GrownTownModel", "bidOf", "(II)I"⟩, 79) := ⟨⟨by decide +kernel, by decide +kernel⟩, List.mem_of_getElem? (i := 1485) (by decide +kernel), List.mem_of_getElem? (i := 1916) (by decide +kernel), List.mem_of_getElem? (i := 1917) (by decide +kernel)⟩
theorem lw_p101 : lw_okq (⟨"GrownTownModel", "goYear", "()V"⟩, 79) := ⟨⟨by decide +kernel, by decide +kernel⟩, List.mem_of_getElem? (i := 1485) (by decide +kernel), List.mem_of_getElem? (i := 1924) (by decide +kernel), List.mem_of_getElem? (i := 1925) (by decide +kernel)⟩
theorem lw_p102 : lw_okq (⟨"GrownTownModel", "withUse", "()I"⟩, 79) := ⟨⟨by decide +kernel, by decide +kernel⟩, List.mem_of_getElem? (i := 1485) (by decide +kernel), List.mem_of_getElem? (i := 1928) (by decide +kernel), List.mem_of_getElem? (i := 1929) (by decide +kernel)⟩
theorem lw_p103 : lw_okq (⟨"GrownTownModel", "isPast", "(I)Z"⟩, 79) := ⟨⟨by decide +kernel, by decide +kernel⟩, List.mem_of_getElem? (i := 1485) (by decide +kernel), List.mem_of_getElem? (i := 1936) (by decide +kernel), List.mem_of_getElem? (i := 1937) (by decide +kernel)⟩
theorem lw_p104 : lw_okq (⟨"GrownTownModel", "growAnew", "(I)V"⟩, 79) := ⟨⟨by decide +kernel, by decide +kernel⟩, List.mem_of_getElem? (i := 1485) (by decide +kernel), List.mem_of_getElem? (i := 1949) (by decide +kernel), List.mem_of_getElem? (i := 1950) (by decide +kernel)⟩
theorem lw_p105 : lw_okq (⟨"GrownTownModel", "putAside", "()V"⟩, 79) := ⟨⟨by decide +kernel, by decide +kernel⟩, List.mem_of_getElem? (i := 1485) (by decide +kernel), List.mem_of_getElem? (i := 1953) (by decide +kernel), List.mem_of_getElem? (i := 1954) (by decide +kernel)⟩
theorem lw_p106 : lw_okq (⟨"GrownTownModel", "again", "(II)V"⟩, 79) := ⟨⟨by decide +kernel, by decide +kernel⟩, List.mem_of_getElem? (i := 1485) (by decide +kernel), List.mem_of_getElem? (i := 1957) (by decide +kernel), List.mem_of_getElem? (i := 1958) (by decide +kernel)⟩
theorem lw_p107 : lw_okq (⟨"GrownTownModel", "bringBack", "()V"⟩, 79) := ⟨⟨by decide +kernel, by decide +kernel⟩, List.mem_of_getElem? (i := 1485) (by decide +kernel), List.mem_of_getElem? (i := 1961) (by decide +kernel), List.mem_of_getElem? (i := 1962) (by decide +kernel)⟩
theorem lw_p108 : lw_okq (⟨"GrownTownModel", "clearCrowd", "()V"⟩, 79) := ⟨⟨by decide +kernel, by decide +kernel⟩, List.mem_of_getElem? (i := 1485) (by decide +kernel), List.mem_of_getElem? (i := 1981) (by decide +kernel), List.mem_of_getElem? (i := 1982) (by decide +kernel)⟩
theorem lw_p109 : lw_okq (⟨"GrownTownModel", "layWay", "(II)Z"⟩, 79) := ⟨⟨by decide +kernel, by decide +kernel⟩, List.mem_of_getElem? (i := 1485) (by decide +kernel), List.mem_of_getElem? (i := 1985) (by decide +kernel), List.mem_of_getElem? (i := 1986) (by decide +kernel)⟩
theorem lw_p110 : lw_okq (⟨"GrownTownModel", "layDistances", "(I)V"⟩, 79) := ⟨⟨by decide +kernel, by decide +kernel⟩, List.mem_of_getElem? (i := 1485) (by decide +kernel), List.mem_of_getElem? (i := 1989) (by decide +kernel), List.mem_of_getElem? (i := 1990) (by decide +kernel)⟩
theorem lw_p111 : lw_okq (⟨"GrownTownModel", "isState", "(I)Z"⟩, 79) := ⟨⟨by decide +kernel, by decide +kernel⟩, List.mem_of_getElem? (i := 1485) (by decide +kernel), List.mem_of_getElem? (i := 1994) (by decide +kernel), List.mem_of_getElem? (i := 1995) (by decide +kernel)⟩
def lw_privs_7 : List (MethodName × Nat) := [(⟨"GrownTownModel", "seeks", "(I)Z"⟩, 79), (⟨"GrownTownModel", "settleBids", "()V"⟩, 79), (⟨"GrownTownModel", "asks", "(I)I"⟩, 79), (⟨"GrownTownModel", "valueOf", "(II)I"⟩, 79), (⟨"GrownTownModel", "bidOf", "(II)I"⟩, 79), (⟨"GrownTownModel", "goYear", "()V"⟩, 79), (⟨"GrownTownModel", "withUse", "()I"⟩, 79), (⟨"GrownTownModel", "isPast", "(I)Z"⟩, 79), (⟨"GrownTownModel", "growAnew", "(I)V"⟩, 79), (⟨"GrownTownModel", "putAside", "()V"⟩, 79), (⟨"GrownTownModel", "again", "(II)V"⟩, 79), (⟨"GrownTownModel", "bringBack", "()V"⟩, 79), (⟨"GrownTownModel", "clearCrowd", "()V"⟩, 79), (⟨"GrownTownModel", "layWay", "(II)Z"⟩, 79), (⟨"GrownTownModel", "layDistances", "(I)V"⟩, 79), (⟨"GrownTownModel", "isState", "(I)Z"⟩, 79)]
theorem lw_r7 : ∀ q ∈ lw_privs_7, lw_okq q := List.forall_mem_cons.mpr ⟨lw_p96, List.forall_mem_cons.mpr ⟨lw_p97, List.forall_mem_cons.mpr ⟨lw_p98, List.forall_mem_cons.mpr ⟨lw_p99, List.forall_mem_cons.mpr ⟨lw_p100, List.forall_mem_cons.mpr ⟨lw_p101, List.forall_mem_cons.mpr ⟨lw_p102, List.forall_mem_cons.mpr ⟨lw_p103, List.forall_mem_cons.mpr ⟨lw_p104, List.forall_mem_cons.mpr ⟨lw_p105, List.forall_mem_cons.mpr ⟨lw_p106, List.forall_mem_cons.mpr ⟨lw_p107, List.forall_mem_cons.mpr ⟨lw_p108, List.forall_mem_cons.mpr ⟨lw_p109, List.forall_mem_cons.mpr ⟨lw_p110, List.forall_mem_cons.mpr ⟨lw_p111, fun _ h => absurd h List.not_mem_nil⟩⟩⟩⟩⟩⟩⟩⟩⟩⟩⟩⟩⟩⟩⟩⟩
theorem lw_p112 : lw_okq (⟨"GrownTownModel", "takes", "(II)I"⟩, 79) := ⟨⟨by decide +kernel, by decide +kernel⟩, List.mem_of_getElem? (i := 1485) (by decide +kernel), List.mem_of_getElem? (i := 1998) (by decide +kernel), List.mem_of_getElem? (i := 1999) (by decide +kernel)⟩
theorem lw_p113 : lw_okq (⟨"GrownTownModel", "edge", "(II)I"⟩, 79) := ⟨⟨by decide +kernel, by decide +kernel⟩, List.mem_of_getElem? (i := 1485) (by decide +kernel), List.mem_of_getElem? (i := 2002) (by decide +kernel), List.mem_of_getElem? (i := 2003) (by decide +kernel)⟩
theorem lw_p114 : lw_okq (⟨"GrownTownModel", "plotOf", "(I)I"⟩, 79) := ⟨⟨by decide +kernel, by decide +kernel⟩, List.mem_of_getElem? (i := 1485) (by decide +kernel), List.mem_of_getElem? (i := 2006) (by decide +kernel), List.mem_of_getElem? (i := 2007) (by decide +kernel)⟩
theorem lw_p115 : lw_okq (⟨"GrownTownModel", "layPath", "(II)V"⟩, 79) := ⟨⟨by decide +kernel, by decide +kernel⟩, List.mem_of_getElem? (i := 1485) (by decide +kernel), List.mem_of_getElem? (i := 2014) (by decide +kernel), List.mem_of_getElem? (i := 2015) (by decide +kernel)⟩
theorem lw_p116 : lw_okq (⟨"GrownTownModel", "change", "()V"⟩, 79) := ⟨⟨by decide +kernel, by decide +kernel⟩, List.mem_of_getElem? (i := 1485) (by decide +kernel), List.mem_of_getElem? (i := 2018) (by decide +kernel), List.mem_of_getElem? (i := 2019) (by decide +kernel)⟩
theorem lw_p117 : lw_okq (⟨"GrownTownModel", "goes", "(II)Z"⟩, 79) := ⟨⟨by decide +kernel, by decide +kernel⟩, List.mem_of_getElem? (i := 1485) (by decide +kernel), List.mem_of_getElem? (i := 2022) (by decide +kernel), List.mem_of_getElem? (i := 2023) (by decide +kernel)⟩
theorem lw_p118 : lw_okq (⟨"GrownTownModel", "layTrips", "()I"⟩, 79) := ⟨⟨by decide +kernel, by decide +kernel⟩, List.mem_of_getElem? (i := 1485) (by decide +kernel), List.mem_of_getElem? (i := 2034) (by decide +kernel), List.mem_of_getElem? (i := 2035) (by decide +kernel)⟩
theorem lw_p119 : lw_okq (⟨"GrownTownModel", "goBy", "(I)V"⟩, 79) := ⟨⟨by decide +kernel, by decide +kernel⟩, List.mem_of_getElem? (i := 1485) (by decide +kernel), List.mem_of_getElem? (i := 2038) (by decide +kernel), List.mem_of_getElem? (i := 2039) (by decide +kernel)⟩
theorem lw_p120 : lw_okq (⟨"GrownTownModel", "layCrowd", "(I)V"⟩, 79) := ⟨⟨by decide +kernel, by decide +kernel⟩, List.mem_of_getElem? (i := 1485) (by decide +kernel), List.mem_of_getElem? (i := 2042) (by decide +kernel), List.mem_of_getElem? (i := 2043) (by decide +kernel)⟩
theorem lw_p121 : lw_okq (⟨"GrownTownModel", "takenBy", "(I)I"⟩, 79) := ⟨⟨by decide +kernel, by decide +kernel⟩, List.mem_of_getElem? (i := 1485) (by decide +kernel), List.mem_of_getElem? (i := 2046) (by decide +kernel), List.mem_of_getElem? (i := 2047) (by decide +kernel)⟩
theorem lw_p122 : lw_okq (⟨"GrownTownModel", "canBe", "(I)Z"⟩, 79) := ⟨⟨by decide +kernel, by decide +kernel⟩, List.mem_of_getElem? (i := 1485) (by decide +kernel), List.mem_of_getElem? (i := 2058) (by decide +kernel), List.mem_of_getElem? (i := 2059) (by decide +kernel)⟩
theorem lw_p123 : lw_okq (⟨"GrownTownModel", "allWorth", "()I"⟩, 79) := ⟨⟨by decide +kernel, by decide +kernel⟩, List.mem_of_getElem? (i := 1485) (by decide +kernel), List.mem_of_getElem? (i := 2066) (by decide +kernel), List.mem_of_getElem? (i := 2067) (by decide +kernel)⟩
theorem lw_p124 : lw_okq (⟨"GrownTownModel", "canDo", "(I)Z"⟩, 79) := ⟨⟨by decide +kernel, by decide +kernel⟩, List.mem_of_getElem? (i := 1485) (by decide +kernel), List.mem_of_getElem? (i := 2070) (by decide +kernel), List.mem_of_getElem? (i := 2071) (by decide +kernel)⟩
theorem lw_p125 : lw_okq (⟨"GrownTownModel", "costOf", "(I)I"⟩, 79) := ⟨⟨by decide +kernel, by decide +kernel⟩, List.mem_of_getElem? (i := 1485) (by decide +kernel), List.mem_of_getElem? (i := 2074) (by decide +kernel), List.mem_of_getElem? (i := 2075) (by decide +kernel)⟩
theorem lw_p126 : lw_okq (⟨"GrownTownModel", "tryOut", "(IZ)V"⟩, 79) := ⟨⟨by decide +kernel, by decide +kernel⟩, List.mem_of_getElem? (i := 1485) (by decide +kernel), List.mem_of_getElem? (i := 2078) (by decide +kernel), List.mem_of_getElem? (i := 2079) (by decide +kernel)⟩
def lw_privs_8 : List (MethodName × Nat) := [(⟨"GrownTownModel", "takes", "(II)I"⟩, 79), (⟨"GrownTownModel", "edge", "(II)I"⟩, 79), (⟨"GrownTownModel", "plotOf", "(I)I"⟩, 79), (⟨"GrownTownModel", "layPath", "(II)V"⟩, 79), (⟨"GrownTownModel", "change", "()V"⟩, 79), (⟨"GrownTownModel", "goes", "(II)Z"⟩, 79), (⟨"GrownTownModel", "layTrips", "()I"⟩, 79), (⟨"GrownTownModel", "goBy", "(I)V"⟩, 79), (⟨"GrownTownModel", "layCrowd", "(I)V"⟩, 79), (⟨"GrownTownModel", "takenBy", "(I)I"⟩, 79), (⟨"GrownTownModel", "canBe", "(I)Z"⟩, 79), (⟨"GrownTownModel", "allWorth", "()I"⟩, 79), (⟨"GrownTownModel", "canDo", "(I)Z"⟩, 79), (⟨"GrownTownModel", "costOf", "(I)I"⟩, 79), (⟨"GrownTownModel", "tryOut", "(IZ)V"⟩, 79)]
theorem lw_r8 : ∀ q ∈ lw_privs_8, lw_okq q := List.forall_mem_cons.mpr ⟨lw_p112, List.forall_mem_cons.mpr ⟨lw_p113, List.forall_mem_cons.mpr ⟨lw_p114, List.forall_mem_cons.mpr ⟨lw_p115, List.forall_mem_cons.mpr ⟨lw_p116, List.forall_mem_cons.mpr ⟨lw_p117, List.forall_mem_cons.mpr ⟨lw_p118, List.forall_mem_cons.mpr ⟨lw_p119, List.forall_mem_cons.mpr ⟨lw_p120, List.forall_mem_cons.mpr ⟨lw_p121, List.forall_mem_cons.mpr ⟨lw_p122, List.forall_mem_cons.mpr ⟨lw_p123, List.forall_mem_cons.mpr ⟨lw_p124, List.forall_mem_cons.mpr ⟨lw_p125, List.forall_mem_cons.mpr ⟨lw_p126, fun _ h => absurd h List.not_mem_nil⟩⟩⟩⟩⟩⟩⟩⟩⟩⟩⟩⟩⟩⟩⟩
def lw_privs : List (MethodName × Nat) := lw_privs_1 ++ (lw_privs_2 ++ (lw_privs_3 ++ (lw_privs_4 ++ (lw_privs_5 ++ (lw_privs_6 ++ (lw_privs_7 ++ (lw_privs_8)))))))
def lw_tbl : List Cond := k2_sels lw_privs ++ tables_1
theorem lw_privs_ok : ∀ q ∈ lw_privs, lw_okq q := by
  show ∀ q ∈ lw_privs_1 ++ (lw_privs_2 ++ (lw_privs_3 ++ (lw_privs_4 ++ (lw_privs_5 ++ (lw_privs_6 ++ (lw_privs_7 ++ (lw_privs_8))))))), lw_okq q
  exact List.forall_mem_append.mpr ⟨lw_r1, List.forall_mem_append.mpr ⟨lw_r2, List.forall_mem_append.mpr ⟨lw_r3, List.forall_mem_append.mpr ⟨lw_r4, List.forall_mem_append.mpr ⟨lw_r5, List.forall_mem_append.mpr ⟨lw_r6, List.forall_mem_append.mpr ⟨lw_r7, lw_r8⟩⟩⟩⟩⟩⟩⟩
-- ===== end of PART A =====
def RX0 : String := "GrownTown$Acts"
def TX0 : u_T := fun k => match k with
  | 0 => ("GrownTown$Acts", "kept", "I", false)
  | 1 => ("GrownTown$Acts", "kinds", "[I", true)
  | 2 => ("GrownTown$Acts", "years", "[I", true)
  | 3 => ("GrownTown$Acts", "numbers", "[I", true)
  | _ => ("GrownTown$Acts", "told", "[LGrownTown$Laws;", true)
def tyX0 : Nat → FieldType := fun k => match k with
  | 0 => .int
  | 1 => .array .int
  | 2 => .array .int
  | 3 => .array .int
  | _ => .array (.object "GrownTown$Laws")
theorem nmX0 : ∀ a, a < 5 → ∀ b, b < 5 → a ≠ b → (TX0 a).2.1 ≠ (TX0 b).2.1 := by decide +kernel
theorem tyX0_ok : ∀ k, k < 5 → parseFieldDescriptor (TX0 k).2.2.1 = some (tyX0 k) := by decide +kernel
def RX1 : String := "GrownTown$Board"
def TX1 : u_T := fun k => match k with
  | 0 => ("GrownTown$Board", "w", "I", false)
  | 1 => ("GrownTown$Board", "h", "I", false)
  | 2 => ("GrownTown$Board", "plots", "I", false)
  | 3 => ("GrownTown$Board", "changes", "I", false)
  | 4 => ("GrownTown$Board", "grounds", "[I", true)
  | 5 => ("GrownTown$Board", "heights", "[I", true)
  | 6 => ("GrownTown$Board", "uses", "[I", true)
  | 7 => ("GrownTown$Board", "things", "[J", true)
  | _ => ("GrownTown$Board", "near", "[J", true)
def tyX1 : Nat → FieldType := fun k => match k with
  | 0 => .int
  | 1 => .int
  | 2 => .int
  | 3 => .int
  | 4 => .array .int
  | 5 => .array .int
  | 6 => .array .int
  | 7 => .array .long
  | _ => .array .long
theorem nmX1 : ∀ a, a < 9 → ∀ b, b < 9 → a ≠ b → (TX1 a).2.1 ≠ (TX1 b).2.1 := by decide +kernel
theorem tyX1_ok : ∀ k, k < 9 → parseFieldDescriptor (TX1 k).2.2.1 = some (tyX1 k) := by decide +kernel
def RX2 : String := "GrownTown$LawText"
def TX2 : u_T := fun k => match k with
  | 0 => ("GrownTown$LawText", "length", "I", false)
  | 1 => ("GrownTown$LawText", "fault", "I", false)
  | 2 => ("GrownTown$LawText", "faultPlace", "I", false)
  | 3 => ("GrownTown$LawText", "bytes", "[I", true)
  | 4 => ("GrownTown$LawText", "tokens", "I", false)
  | 5 => ("GrownTown$LawText", "kinds", "[I", true)
  | 6 => ("GrownTown$LawText", "starts", "[I", true)
  | 7 => ("GrownTown$LawText", "values", "[I", true)
  | 8 => ("GrownTown$LawText", "next", "I", false)
  | _ => ("GrownTown$LawText", "taken", "I", false)
def tyX2 : Nat → FieldType := fun k => match k with
  | 0 => .int
  | 1 => .int
  | 2 => .int
  | 3 => .array .int
  | 4 => .int
  | 5 => .array .int
  | 6 => .array .int
  | 7 => .array .int
  | 8 => .int
  | _ => .int
theorem nmX2 : ∀ a, a < 10 → ∀ b, b < 10 → a ≠ b → (TX2 a).2.1 ≠ (TX2 b).2.1 := by decide +kernel
theorem tyX2_ok : ∀ k, k < 10 → parseFieldDescriptor (TX2 k).2.2.1 = some (tyX2 k) := by decide +kernel
def RX3 : String := "GrownTown$Laws"
def TX3 : u_T := fun k => match k with
  | 0 => ("GrownTown$Laws", "told", "I", false)
  | _ => ("GrownTown$Laws", "rows", "[I", true)
def tyX3 : Nat → FieldType := fun k => match k with
  | 0 => .int
  | _ => .array .int
theorem nmX3 : ∀ a, a < 2 → ∀ b, b < 2 → a ≠ b → (TX3 a).2.1 ≠ (TX3 b).2.1 := by decide +kernel
theorem tyX3_ok : ∀ k, k < 2 → parseFieldDescriptor (TX3 k).2.2.1 = some (tyX3 k) := by decide +kernel
def RX4 : String := "GrownTown$Notes"
def TX4 : u_T := fun k => match k with
  | 0 => ("GrownTown$Notes", "told", "I", false)
  | 1 => ("GrownTown$Notes", "knownIn", "[I", true)
  | 2 => ("GrownTown$Notes", "years", "[I", true)
  | 3 => ("GrownTown$Notes", "plots", "[I", true)
  | _ => ("GrownTown$Notes", "uses", "[I", true)
def tyX4 : Nat → FieldType := fun k => match k with
  | 0 => .int
  | 1 => .array .int
  | 2 => .array .int
  | 3 => .array .int
  | _ => .array .int
theorem nmX4 : ∀ a, a < 5 → ∀ b, b < 5 → a ≠ b → (TX4 a).2.1 ≠ (TX4 b).2.1 := by decide +kernel
theorem tyX4_ok : ∀ k, k < 5 → parseFieldDescriptor (TX4 k).2.2.1 = some (tyX4 k) := by decide +kernel
def RX5 : String := "GrownTown$Plans"
def TX5 : u_T := fun k => match k with
  | 0 => ("GrownTown$Plans", "told", "I", false)
  | 1 => ("GrownTown$Plans", "bestSet", "I", false)
  | 2 => ("GrownTown$Plans", "bestCost", "I", false)
  | 3 => ("GrownTown$Plans", "bestSum", "I", false)
  | 4 => ("GrownTown$Plans", "plots", "[I", true)
  | 5 => ("GrownTown$Plans", "kinds", "[I", true)
  | _ => ("GrownTown$Plans", "costs", "[I", true)
def tyX5 : Nat → FieldType := fun k => match k with
  | 0 => .int
  | 1 => .int
  | 2 => .int
  | 3 => .int
  | 4 => .array .int
  | 5 => .array .int
  | _ => .array .int
theorem nmX5 : ∀ a, a < 7 → ∀ b, b < 7 → a ≠ b → (TX5 a).2.1 ≠ (TX5 b).2.1 := by decide +kernel
theorem tyX5_ok : ∀ k, k < 7 → parseFieldDescriptor (TX5 k).2.2.1 = some (tyX5 k) := by decide +kernel
def RX6 : String := "GrownTown$Seekers"
def TX6 : u_T := fun k => match k with
  | 0 => ("GrownTown$Seekers", "come", "I", false)
  | 1 => ("GrownTown$Seekers", "use", "[I", true)
  | 2 => ("GrownTown$Seekers", "purse", "[I", true)
  | 3 => ("GrownTown$Seekers", "taste", "[I", true)
  | 4 => ("GrownTown$Seekers", "coming", "[I", true)
  | 5 => ("GrownTown$Seekers", "plot", "[I", true)
  | 6 => ("GrownTown$Seekers", "left", "[I", true)
  | 7 => ("GrownTown$Seekers", "paid", "[I", true)
  | 8 => ("GrownTown$Seekers", "since", "[I", true)
  | 9 => ("GrownTown$Seekers", "heldBy", "[I", true)
  | 10 => ("GrownTown$Seekers", "bid", "[I", true)
  | 11 => ("GrownTown$Seekers", "letGo", "[J", true)
  | 12 => ("GrownTown$Seekers", "holds", "[I", true)
  | 13 => ("GrownTown$Seekers", "open", "[J", true)
  | 14 => ("GrownTown$Seekers", "worths", "[I", true)
  | _ => ("GrownTown$Seekers", "heights", "[I", true)
def tyX6 : Nat → FieldType := fun k => match k with
  | 0 => .int
  | 1 => .array .int
  | 2 => .array .int
  | 3 => .array .int
  | 4 => .array .int
  | 5 => .array .int
  | 6 => .array .int
  | 7 => .array .int
  | 8 => .array .int
  | 9 => .array .int
  | 10 => .array .int
  | 11 => .array .long
  | 12 => .array .int
  | 13 => .array .long
  | 14 => .array .int
  | _ => .array .int
theorem nmX6 : ∀ a, a < 16 → ∀ b, b < 16 → a ≠ b → (TX6 a).2.1 ≠ (TX6 b).2.1 := by decide +kernel
theorem tyX6_ok : ∀ k, k < 16 → parseFieldDescriptor (TX6 k).2.2.1 = some (tyX6 k) := by decide +kernel
def RX7 : String := "GrownTown$Sheets"
def TX7 : u_T := fun k => match k with
  | 0 => ("GrownTown$Sheets", "sizes", "[I", true)
  | 1 => ("GrownTown$Sheets", "lanes", "[I", true)
  | _ => ("GrownTown$Sheets", "cells", "[I", true)
def tyX7 : Nat → FieldType := fun k => match k with
  | 0 => .array .int
  | 1 => .array .int
  | _ => .array .int
theorem nmX7 : ∀ a, a < 3 → ∀ b, b < 3 → a ≠ b → (TX7 a).2.1 ≠ (TX7 b).2.1 := by decide +kernel
theorem tyX7_ok : ∀ k, k < 3 → parseFieldDescriptor (TX7 k).2.2.1 = some (tyX7 k) := by decide +kernel
def RX8 : String := "GrownTown$Town"
def TX8 : u_T := fun k => match k with
  | 0 => ("GrownTown$Town", "board", "LGrownTown$Board;", true)
  | 1 => ("GrownTown$Town", "laws", "LGrownTown$Laws;", true)
  | 2 => ("GrownTown$Town", "seekers", "LGrownTown$Seekers;", true)
  | 3 => ("GrownTown$Town", "year", "I", false)
  | 4 => ("GrownTown$Town", "chest", "I", false)
  | 5 => ("GrownTown$Town", "uses", "[I", true)
  | 6 => ("GrownTown$Town", "figures", "[I", true)
  | _ => ("GrownTown$Town", "taxed", "[I", true)
def tyX8 : Nat → FieldType := fun k => match k with
  | 0 => .object "GrownTown$Board"
  | 1 => .object "GrownTown$Laws"
  | 2 => .object "GrownTown$Seekers"
  | 3 => .int
  | 4 => .int
  | 5 => .array .int
  | 6 => .array .int
  | _ => .array .int
theorem nmX8 : ∀ a, a < 8 → ∀ b, b < 8 → a ≠ b → (TX8 a).2.1 ≠ (TX8 b).2.1 := by decide +kernel
theorem tyX8_ok : ∀ k, k < 8 → parseFieldDescriptor (TX8 k).2.2.1 = some (tyX8 k) := by decide +kernel
def RX9 : String := "GrownTown$Trips"
def TX9 : u_T := fun k => match k with
  | 0 => ("GrownTown$Trips", "ways", "LGrownTown$Ways;", true)
  | 1 => ("GrownTown$Trips", "told", "I", false)
  | 2 => ("GrownTown$Trips", "rounds", "I", false)
  | 3 => ("GrownTown$Trips", "spent", "Z", false)
  | 4 => ("GrownTown$Trips", "settledFor", "I", false)
  | 5 => ("GrownTown$Trips", "settledAt", "I", false)
  | 6 => ("GrownTown$Trips", "from", "[I", true)
  | 7 => ("GrownTown$Trips", "to", "[I", true)
  | 8 => ("GrownTown$Trips", "out", "[I", true)
  | 9 => ("GrownTown$Trips", "alone", "[I", true)
  | 10 => ("GrownTown$Trips", "takes", "[I", true)
  | 11 => ("GrownTown$Trips", "lengths", "[I", true)
  | _ => ("GrownTown$Trips", "plots", "[I", true)
def tyX9 : Nat → FieldType := fun k => match k with
  | 0 => .object "GrownTown$Ways"
  | 1 => .int
  | 2 => .int
  | 3 => .boolean
  | 4 => .int
  | 5 => .int
  | 6 => .array .int
  | 7 => .array .int
  | 8 => .array .int
  | 9 => .array .int
  | 10 => .array .int
  | 11 => .array .int
  | _ => .array .int
theorem nmX9 : ∀ a, a < 13 → ∀ b, b < 13 → a ≠ b → (TX9 a).2.1 ≠ (TX9 b).2.1 := by decide +kernel
theorem tyX9_ok : ∀ k, k < 13 → parseFieldDescriptor (TX9 k).2.2.1 = some (tyX9 k) := by decide +kernel
def RX10 : String := "GrownTown$Ways"
def TX10 : u_T := fun k => match k with
  | 0 => ("GrownTown$Ways", "board", "LGrownTown$Board;", true)
  | 1 => ("GrownTown$Ways", "trams", "I", false)
  | 2 => ("GrownTown$Ways", "stops", "[I", true)
  | 3 => ("GrownTown$Ways", "stopCounts", "[I", true)
  | 4 => ("GrownTown$Ways", "ends", "[I", true)
  | 5 => ("GrownTown$Ways", "bare", "[I", true)
  | 6 => ("GrownTown$Ways", "crowd", "[I", true)
  | 7 => ("GrownTown$Ways", "laidFor", "I", false)
  | 8 => ("GrownTown$Ways", "times", "[I", true)
  | 9 => ("GrownTown$Ways", "done", "[I", true)
  | 10 => ("GrownTown$Ways", "onFoot", "Z", false)
  | 11 => ("GrownTown$Ways", "length", "I", false)
  | 12 => ("GrownTown$Ways", "plots", "[I", true)
  | 13 => ("GrownTown$Ways", "afoot", "Z", false)
  | _ => ("GrownTown$Ways", "aboard", "I", false)
def tyX10 : Nat → FieldType := fun k => match k with
  | 0 => .object "GrownTown$Board"
  | 1 => .int
  | 2 => .array .int
  | 3 => .array .int
  | 4 => .array .int
  | 5 => .array .int
  | 6 => .array .int
  | 7 => .int
  | 8 => .array .int
  | 9 => .array .int
  | 10 => .boolean
  | 11 => .int
  | 12 => .array .int
  | 13 => .boolean
  | _ => .int
theorem nmX10 : ∀ a, a < 15 → ∀ b, b < 15 → a ≠ b → (TX10 a).2.1 ≠ (TX10 b).2.1 := by decide +kernel
theorem tyX10_ok : ∀ k, k < 15 → parseFieldDescriptor (TX10 k).2.2.1 = some (tyX10 k) := by decide +kernel
def RX11 : String := "GrownTown"
def TX11 : u_T := fun k => match k with
  | 0 => ("GrownTown", "town", "LGrownTown$Town;", true)
  | 1 => ("GrownTown", "anew", "LGrownTown$Town;", true)
  | 2 => ("GrownTown", "acts", "LGrownTown$Acts;", true)
  | 3 => ("GrownTown", "tape", "LGrownTown$LawText;", true)
  | 4 => ("GrownTown", "read", "LGrownTown$Laws;", true)
  | 5 => ("GrownTown", "ways", "LGrownTown$Ways;", true)
  | 6 => ("GrownTown", "trips", "LGrownTown$Trips;", true)
  | 7 => ("GrownTown", "plans", "LGrownTown$Plans;", true)
  | 8 => ("GrownTown", "notes", "LGrownTown$Notes;", true)
  | _ => ("GrownTown", "sheets", "LGrownTown$Sheets;", true)
def tyX11 : Nat → FieldType := fun k => match k with
  | 0 => .object "GrownTown$Town"
  | 1 => .object "GrownTown$Town"
  | 2 => .object "GrownTown$Acts"
  | 3 => .object "GrownTown$LawText"
  | 4 => .object "GrownTown$Laws"
  | 5 => .object "GrownTown$Ways"
  | 6 => .object "GrownTown$Trips"
  | 7 => .object "GrownTown$Plans"
  | 8 => .object "GrownTown$Notes"
  | _ => .object "GrownTown$Sheets"
theorem nmX11 : ∀ a, a < 10 → ∀ b, b < 10 → a ≠ b → (TX11 a).2.1 ≠ (TX11 b).2.1 := by decide +kernel
theorem tyX11_ok : ∀ k, k < 10 → parseFieldDescriptor (TX11 k).2.2.1 = some (tyX11 k) := by decide +kernel
def RX12 : String := "GrownTownModel"
def TX12 : u_T := fun k => match k with
  | 0 => ("GrownTownModel", "wide", "I", false)
  | 1 => ("GrownTownModel", "high", "I", false)
  | 2 => ("GrownTownModel", "grounds", "[I", true)
  | 3 => ("GrownTownModel", "heights", "[I", true)
  | 4 => ("GrownTownModel", "uses", "[I", true)
  | 5 => ("GrownTownModel", "owners", "[I", true)
  | 6 => ("GrownTownModel", "now", "I", false)
  | 7 => ("GrownTownModel", "chest", "I", false)
  | 8 => ("GrownTownModel", "lawMany", "I", false)
  | 9 => ("GrownTownModel", "laws", "[I", true)
  | 10 => ("GrownTownModel", "seekers", "I", false)
  | 11 => ("GrownTownModel", "seekUse", "[I", true)
  | 12 => ("GrownTownModel", "seekPurse", "[I", true)
  | 13 => ("GrownTownModel", "seekTaste", "[I", true)
  | 14 => ("GrownTownModel", "seekYear", "[I", true)
  | 15 => ("GrownTownModel", "seekPlot", "[I", true)
  | 16 => ("GrownTownModel", "seekLeft", "[I", true)
  | 17 => ("GrownTownModel", "seekBid", "[I", true)
  | 18 => ("GrownTownModel", "seekGot", "[I", true)
  | 19 => ("GrownTownModel", "acts", "I", false)
  | 20 => ("GrownTownModel", "actKind", "[I", true)
  | 21 => ("GrownTownModel", "actYear", "[I", true)
  | 22 => ("GrownTownModel", "actNumbers", "[I", true)
  | 23 => ("GrownTownModel", "actLaws", "[I", true)
  | 24 => ("GrownTownModel", "pastUses", "[I", true)
  | 25 => ("GrownTownModel", "pastTold", "[I", true)
  | 26 => ("GrownTownModel", "tape", "[I", true)
  | 27 => ("GrownTownModel", "taped", "I", false)
  | 28 => ("GrownTownModel", "fault", "I", false)
  | 29 => ("GrownTownModel", "wrong", "I", false)
  | 30 => ("GrownTownModel", "wrongAt", "I", false)
  | 31 => ("GrownTownModel", "at", "I", false)
  | 32 => ("GrownTownModel", "place", "I", false)
  | 33 => ("GrownTownModel", "token", "I", false)
  | 34 => ("GrownTownModel", "value", "I", false)
  | 35 => ("GrownTownModel", "newLaws", "[I", true)
  | 36 => ("GrownTownModel", "newMany", "I", false)
  | 37 => ("GrownTownModel", "ends", "[I", true)
  | 38 => ("GrownTownModel", "letters", "[I", true)
  | 39 => ("GrownTownModel", "holder", "[I", true)
  | 40 => ("GrownTownModel", "heldBy", "[I", true)
  | 41 => ("GrownTownModel", "gone", "[J", true)
  | 42 => ("GrownTownModel", "values", "[I", true)
  | 43 => ("GrownTownModel", "mays", "[Z", true)
  | 44 => ("GrownTownModel", "became", "I", false)
  | 45 => ("GrownTownModel", "leftMany", "I", false)
  | 46 => ("GrownTownModel", "taxes", "I", false)
  | 47 => ("GrownTownModel", "worths", "[I", true)
  | 48 => ("GrownTownModel", "aside", "[I", true)
  | 49 => ("GrownTownModel", "firstUnlike", "I", false)
  | 50 => ("GrownTownModel", "moreAtEnd", "I", false)
  | 51 => ("GrownTownModel", "trams", "I", false)
  | 52 => ("GrownTownModel", "stopMany", "[I", true)
  | 53 => ("GrownTownModel", "stops", "[I", true)
  | 54 => ("GrownTownModel", "distance", "[I", true)
  | 55 => ("GrownTownModel", "isDone", "[Z", true)
  | 56 => ("GrownTownModel", "byTram", "Z", false)
  | 57 => ("GrownTownModel", "crowd", "[I", true)
  | 58 => ("GrownTownModel", "path", "I", false)
  | 59 => ("GrownTownModel", "pathPlots", "[I", true)
  | 60 => ("GrownTownModel", "isHere", "[Z", true)
  | 61 => ("GrownTownModel", "isThere", "[Z", true)
  | 62 => ("GrownTownModel", "tripMany", "I", false)
  | 63 => ("GrownTownModel", "tripFrom", "[I", true)
  | 64 => ("GrownTownModel", "tripTo", "[I", true)
  | 65 => ("GrownTownModel", "tripLong", "[I", true)
  | 66 => ("GrownTownModel", "tripPlots", "[I", true)
  | 67 => ("GrownTownModel", "planMany", "I", false)
  | 68 => ("GrownTownModel", "planPlot", "[I", true)
  | 69 => ("GrownTownModel", "planKind", "[I", true)
  | 70 => ("GrownTownModel", "planCost", "[I", true)
  | 71 => ("GrownTownModel", "noteMany", "I", false)
  | 72 => ("GrownTownModel", "noteKnown", "[I", true)
  | 73 => ("GrownTownModel", "noteYear", "[I", true)
  | 74 => ("GrownTownModel", "notePlot", "[I", true)
  | 75 => ("GrownTownModel", "noteUse", "[I", true)
  | 76 => ("GrownTownModel", "lanes", "[I", true)
  | 77 => ("GrownTownModel", "lengths", "[I", true)
  | _ => ("GrownTownModel", "cells", "[I", true)
def tyX12 : Nat → FieldType := fun k => match k with
  | 0 => .int
  | 1 => .int
  | 2 => .array .int
  | 3 => .array .int
  | 4 => .array .int
  | 5 => .array .int
  | 6 => .int
  | 7 => .int
  | 8 => .int
  | 9 => .array .int
  | 10 => .int
  | 11 => .array .int
  | 12 => .array .int
  | 13 => .array .int
  | 14 => .array .int
  | 15 => .array .int
  | 16 => .array .int
  | 17 => .array .int
  | 18 => .array .int
  | 19 => .int
  | 20 => .array .int
  | 21 => .array .int
  | 22 => .array .int
  | 23 => .array .int
  | 24 => .array .int
  | 25 => .array .int
  | 26 => .array .int
  | 27 => .int
  | 28 => .int
  | 29 => .int
  | 30 => .int
  | 31 => .int
  | 32 => .int
  | 33 => .int
  | 34 => .int
  | 35 => .array .int
  | 36 => .int
  | 37 => .array .int
  | 38 => .array .int
  | 39 => .array .int
  | 40 => .array .int
  | 41 => .array .long
  | 42 => .array .int
  | 43 => .array .boolean
  | 44 => .int
  | 45 => .int
  | 46 => .int
  | 47 => .array .int
  | 48 => .array .int
  | 49 => .int
  | 50 => .int
  | 51 => .int
  | 52 => .array .int
  | 53 => .array .int
  | 54 => .array .int
  | 55 => .array .boolean
  | 56 => .boolean
  | 57 => .array .int
  | 58 => .int
  | 59 => .array .int
  | 60 => .array .boolean
  | 61 => .array .boolean
  | 62 => .int
  | 63 => .array .int
  | 64 => .array .int
  | 65 => .array .int
  | 66 => .array .int
  | 67 => .int
  | 68 => .array .int
  | 69 => .array .int
  | 70 => .array .int
  | 71 => .int
  | 72 => .array .int
  | 73 => .array .int
  | 74 => .array .int
  | 75 => .array .int
  | 76 => .array .int
  | 77 => .array .int
  | _ => .array .int
theorem nmX12 : ∀ a, a < 79 → ∀ b, b < 79 → a ≠ b → (TX12 a).2.1 ≠ (TX12 b).2.1 := by decide +kernel
theorem tyX12_ok : ∀ k, k < 79 → parseFieldDescriptor (TX12 k).2.2.1 = some (tyX12 k) := by decide +kernel
abbrev vwCl : List vw_C := [(RX0, TX0, 5), (RX1, TX1, 9), (RX2, TX2, 10), (RX3, TX3, 2), (RX4, TX4, 5), (RX5, TX5, 7), (RX6, TX6, 16), (RX7, TX7, 3), (RX8, TX8, 8), (RX9, TX9, 13), (RX10, TX10, 15), (RX11, TX11, 10), (RX12, TX12, 79)]
/-- words of a list are among another's, by their places -/
theorem z_places {α : Type} {big ws : List α} (ps : List Nat) (h : ps.map (fun i => big[i]?) = ws.map some) : ∀ w ∈ ws, w ∈ big := by
  intro w hw
  have h1 : some w ∈ ws.map some := List.mem_map.mpr ⟨w, hw, rfl⟩
  rw [← h] at h1
  obtain ⟨i, -, hi⟩ := List.mem_map.mp h1
  exact List.mem_of_getElem? hi
set_option maxRecDepth 100000 in
theorem z_lay0 : ∀ w ∈ u_ws RX0 TX0 5, w ∈ lw_tbl := z_places [360, 362, 364, 366, 368] (by decide +kernel)
set_option maxRecDepth 100000 in
theorem z_lay1 : ∀ w ∈ u_ws RX1 TX1 9, w ∈ lw_tbl := z_places [218, 220, 222, 224, 226, 228, 230, 232, 234] (by decide +kernel)
set_option maxRecDepth 100000 in
theorem z_lay2 : ∀ w ∈ u_ws RX2 TX2 10, w ∈ lw_tbl := z_places [390, 392, 394, 396, 398, 400, 402, 404, 406, 408] (by decide +kernel)
set_option maxRecDepth 100000 in
theorem z_lay3 : ∀ w ∈ u_ws RX3 TX3 2, w ∈ lw_tbl := z_places [250, 252] (by decide +kernel)
set_option maxRecDepth 100000 in
theorem z_lay4 : ∀ w ∈ u_ws RX4 TX4 5, w ∈ lw_tbl := z_places [561, 563, 565, 567, 569] (by decide +kernel)
set_option maxRecDepth 100000 in
theorem z_lay5 : ∀ w ∈ u_ws RX5 TX5 7, w ∈ lw_tbl := z_places [534, 536, 538, 540, 542, 544, 546] (by decide +kernel)
set_option maxRecDepth 100000 in
theorem z_lay6 : ∀ w ∈ u_ws RX6 TX6 16, w ∈ lw_tbl := z_places [279, 281, 283, 285, 287, 289, 291, 293, 295, 297, 299, 301, 303, 305, 307, 309] (by decide +kernel)
set_option maxRecDepth 100000 in
theorem z_lay7 : ∀ w ∈ u_ws RX7 TX7 3, w ∈ lw_tbl := z_places [582, 584, 586] (by decide +kernel)
set_option maxRecDepth 100000 in
theorem z_lay8 : ∀ w ∈ u_ws RX8 TX8 8, w ∈ lw_tbl := z_places [329, 331, 333, 335, 337, 339, 341, 343] (by decide +kernel)
set_option maxRecDepth 100000 in
theorem z_lay9 : ∀ w ∈ u_ws RX9 TX9 13, w ∈ lw_tbl := z_places [490, 492, 494, 496, 498, 500, 502, 504, 506, 508, 510, 512, 514] (by decide +kernel)
set_option maxRecDepth 100000 in
theorem z_lay10 : ∀ w ∈ u_ws RX10 TX10 15, w ∈ lw_tbl := z_places [437, 439, 441, 443, 445, 447, 449, 451, 453, 455, 457, 459, 461, 463, 465] (by decide +kernel)
set_option maxRecDepth 100000 in
theorem z_lay11 : ∀ w ∈ u_ws RX11 TX11 10, w ∈ lw_tbl := z_places [599, 601, 603, 605, 607, 609, 611, 613, 615, 617] (by decide +kernel)
set_option maxRecDepth 100000 in
theorem z_lay12 : ∀ w ∈ u_ws RX12 TX12 79, w ∈ lw_tbl := z_places [1696, 1698, 1700, 1702, 1704, 1706, 1708, 1710, 1712, 1714, 1716, 1718, 1720, 1722, 1724, 1726, 1728, 1730, 1732, 1734, 1736, 1738, 1740, 1742, 1744, 1746, 1748, 1750, 1752, 1754, 1756, 1758, 1760, 1762, 1764, 1766, 1768, 1770, 1772, 1774, 1776, 1778, 1780, 1782, 1784, 1786, 1788, 1790, 1792, 1794, 1796, 1798, 1800, 1802, 1804, 1806, 1808, 1810, 1812, 1814, 1816, 1818, 1820, 1822, 1824, 1826, 1828, 1830, 1832, 1834, 1836, 1838, 1840, 1842, 1844, 1846, 1848, 1850, 1852] (by decide +kernel)
