/-! the tables of the claim, by numbers: methods, links, fields, constants, classes (printed by a program of mine from the claim's own words) -/
def zmt0 : List (MethodName × ByteArray × Nat × Option FieldType × Nat × Nat × Nat × Bool) := [(⟨"GrownTownLaw", "law", "([I)Z"⟩, code, 25, some .boolean, 1, 13, 303, true),
  (⟨"GrownTown$Acts", "<init>", "()V"⟩, prog_2_method_1_code, 1, none, 0, 1, 20, false),
  (⟨"GrownTown$Acts", "forget", "()V"⟩, prog_2_method_2_code, 1, none, 0, 0, 0, false),
  (⟨"GrownTown$Acts", "areFull", "()Z"⟩, prog_2_method_3_code, 1, some .boolean, 0, 0, 0, false),
  (⟨"GrownTown$Acts", "keep", "(IIII)V"⟩, prog_2_method_4_code, 5, none, 4, 2, 44, false),
  (⟨"GrownTown$Acts", "putNumber", "(II)V"⟩, prog_2_method_7_code, 3, none, 2, 1, 22, false),
  (⟨"GrownTown$Acts", "keepLaws", "(ILGrownTown$Laws;)V"⟩, prog_2_method_6_code, 3, none, 2, 3, 72, false),
  (⟨"GrownTownLaw", "part", "(II)I"⟩, method_2_code, 2, some .int, 2, 0, 0, true),
  (⟨"GrownTownLaw", "part", "(II)I"⟩, method_2_code, 2, some .int, 2, 0, 0, true),
  (⟨"GrownTownLaw", "part", "(II)I"⟩, method_2_code, 2, some .int, 2, 0, 0, true),
  (⟨"GrownTownLaw", "part", "(II)I"⟩, method_2_code, 2, some .int, 2, 0, 0, true),
  (⟨"GrownTownLaw", "part", "(II)I"⟩, method_2_code, 2, some .int, 2, 0, 0, true),
  (⟨"GrownTown$Board", "<init>", "()V"⟩, prog_3_method_1_code, 1, none, 0, 4, 90, false),
  (⟨"GrownTown$Board", "begin", "(II)V"⟩, prog_3_method_2_code, 4, none, 2, 3, 67, false),
  (⟨"GrownTown$Board", "measureNear", "()V"⟩, prog_3_method_3_code, 5, none, 0, 2, 43, false),
  (⟨"GrownTown$Board", "far", "(II)I"⟩, prog_3_method_7_code, 3, some .int, 2, 1, 21, false),
  (⟨"GrownTown$Board", "xOf", "(I)I"⟩, prog_3_method_5_code, 2, some .int, 1, 0, 0, false),
  (⟨"GrownTown$Board", "yOf", "(I)I"⟩, prog_3_method_6_code, 2, some .int, 1, 0, 0, false),
  (⟨"GrownTown$Board", "has", "(I)Z"⟩, prog_3_method_4_code, 2, some .boolean, 1, 0, 0, false),
  (⟨"GrownTown$Board", "useOf", "(I)I"⟩, prog_3_method_11_code, 2, some .int, 1, 0, 0, false),
  (⟨"GrownTown$Board", "putGround", "(II)I"⟩, prog_3_method_13_code, 4, some .int, 2, 2, 43, false),
  (⟨"GrownTown$Board", "thingOfGround", "(I)I"⟩, prog_3_method_16_code, 1, some .int, 1, 0, 0, true),
  (⟨"GrownTown$Board", "becomeThing", "(III)V"⟩, prog_3_method_17_code, 4, none, 3, 1, 20, false),
  (⟨"GrownTown$Board", "putHeight", "(II)I"⟩, prog_3_method_14_code, 4, some .int, 2, 1, 22, false),
  (⟨"GrownTown$Board", "groundOf", "(I)I"⟩, prog_3_method_9_code, 2, some .int, 1, 0, 0, false),
  (⟨"GrownTown$Board", "putUse", "(II)I"⟩, prog_3_method_15_code, 4, some .int, 2, 2, 43, false),
  (⟨"GrownTown$Board", "heightOf", "(I)I"⟩, prog_3_method_10_code, 2, some .int, 1, 0, 0, false),
  (⟨"GrownTown$Board", "countNear", "(III)I"⟩, prog_3_method_20_code, 5, some .int, 3, 1, 21, false),
  (⟨"GrownTown$Board", "isFree", "(I)Z"⟩, prog_3_method_12_code, 2, some .boolean, 1, 1, 21, false),
  (⟨"GrownTown$Board", "countUse", "(I)I"⟩, prog_3_method_18_code, 2, some .int, 1, 1, 21, false),
  (⟨"GrownTown$Board", "countUsed", "()I"⟩, prog_3_method_19_code, 1, some .int, 0, 2, 42, false),
  (⟨"GrownTownLaw", "part", "(II)I"⟩, method_2_code, 2, some .int, 2, 0, 0, true),
  (⟨"GrownTown$LawText", "<init>", "()V"⟩, prog_4_method_1_code, 1, none, 0, 1, 20, false),
  (⟨"GrownTown$LawText", "append", "(J)Z"⟩, prog_4_method_2_code, 4, some .boolean, 1, 0, 0, false),
  (⟨"GrownTown$LawText", "readInto", "(LGrownTown$Laws;)Z"⟩, prog_4_method_17_code, 3, some .boolean, 1, 9, 197, false),
  (⟨"GrownTown$LawText", "split", "()V"⟩, prog_4_method_6_code, 3, none, 0, 8, 175, false),
  (⟨"GrownTown$LawText", "isLastOne", "()Z"⟩, prog_4_method_7_code, 1, some .boolean, 0, 0, 0, false),
  (⟨"GrownTown$LawText", "behindBlanks", "(I)I"⟩, prog_4_method_8_code, 3, some .int, 1, 1, 21, false),
  (⟨"GrownTown$LawText", "byteAt", "(I)I"⟩, prog_4_method_3_code, 2, some .int, 1, 0, 0, false),
  (⟨"GrownTown$LawText", "addTokenAt", "(I)I"⟩, prog_4_method_11_code, 3, some .int, 1, 7, 153, false)]
def zmt1 : List (MethodName × ByteArray × Nat × Option FieldType × Nat × Nat × Nat × Bool) := [(⟨"GrownTown$LawText", "addToken", "(III)V"⟩, prog_4_method_12_code, 4, none, 3, 0, 0, false),
  (⟨"GrownTown$LawText", "isLetter", "(I)Z"⟩, prog_4_method_4_code, 2, some .boolean, 1, 1, 21, false),
  (⟨"GrownTown$LawText", "behindLetters", "(I)I"⟩, prog_4_method_9_code, 3, some .int, 1, 2, 42, false),
  (⟨"GrownTown$LawText", "addName", "(II)V"⟩, prog_4_method_13_code, 4, none, 2, 6, 130, false),
  (⟨"GrownTown$LawText", "word", "(I)Ljava/lang/String;"⟩, prog_4_method_15_code, 1, some (.object "java/lang/String"), 1, 0, 0, true),
  (⟨"GrownTown$LawText", "spells", "(Ljava/lang/String;II)Z"⟩, prog_4_method_14_code, 5, some .boolean, 3, 5, 106, false),
  (⟨"GrownTown$LawText", "isFigure", "(I)Z"⟩, prog_4_method_5_code, 2, some .boolean, 1, 1, 21, false),
  (⟨"GrownTown$LawText", "behindFigures", "(I)I"⟩, prog_4_method_10_code, 3, some .int, 1, 2, 42, false),
  (⟨"GrownTown$LawText", "addNumber", "(II)V"⟩, prog_4_method_16_code, 8, none, 2, 1, 23, false),
  (⟨"GrownTown$LawText", "nextKind", "()I"⟩, prog_4_method_18_code, 1, some .int, 0, 0, 0, false),
  (⟨"GrownTown$LawText", "readLaw", "(LGrownTown$Laws;)Z"⟩, prog_4_method_24_code, 6, some .boolean, 1, 4, 94, false),
  (⟨"GrownTown$LawText", "isNext", "(III)Z"⟩, prog_4_method_20_code, 5, some .boolean, 3, 0, 0, false),
  (⟨"GrownTown$LawText", "refuse", "(I)Z"⟩, prog_4_method_19_code, 3, some .boolean, 1, 0, 0, false),
  (⟨"GrownTown$LawText", "take", "()V"⟩, prog_4_method_21_code, 1, none, 0, 0, 0, false),
  (⟨"GrownTown$LawText", "takeNumber", "(II)Z"⟩, prog_4_method_23_code, 3, some .boolean, 2, 1, 24, false),
  (⟨"GrownTown$LawText", "takeWord", "(II)Z"⟩, prog_4_method_22_code, 3, some .boolean, 2, 1, 24, false),
  (⟨"GrownTown$LawText", "nextUse", "()I"⟩, prog_4_method_25_code, 1, some .int, 0, 0, 0, false),
  (⟨"GrownTown$LawText", "readNumbers", "(ILGrownTown$Laws;I)Z"⟩, prog_4_method_26_code, 4, some .boolean, 3, 3, 71, false),
  (⟨"GrownTown$LawText", "readNumber", "(LGrownTown$Laws;IIII)Z"⟩, prog_4_method_27_code, 6, some .boolean, 5, 2, 46, false),
  (⟨"GrownTown$Laws", "<init>", "()V"⟩, prog_5_method_1_code, 1, none, 0, 1, 20, false),
  (⟨"GrownTown$Laws", "areFull", "()Z"⟩, prog_5_method_3_code, 1, some .boolean, 0, 0, 0, false),
  (⟨"GrownTown$Laws", "tell", "(III)Z"⟩, prog_5_method_8_code, 5, some .boolean, 3, 1, 22, false),
  (⟨"GrownTown$Laws", "at", "(II)I"⟩, prog_5_method_4_code, 3, some .int, 2, 0, 0, false),
  (⟨"GrownTown$Laws", "add", "(II)I"⟩, prog_5_method_6_code, 5, some .int, 2, 1, 23, false),
  (⟨"GrownTown$Laws", "put", "(III)V"⟩, prog_5_method_5_code, 4, none, 3, 0, 0, false),
  (⟨"GrownTown$Laws", "take", "(LGrownTown$Laws;I)V"⟩, prog_5_method_7_code, 6, none, 2, 2, 47, false),
  (⟨"GrownTownLaw", "part", "(II)I"⟩, method_2_code, 2, some .int, 2, 0, 0, true),
  (⟨"GrownTownLaw", "part", "(II)I"⟩, method_2_code, 2, some .int, 2, 0, 0, true),
  (⟨"GrownTown$Laws", "zonesAllow", "(IIII)Z"⟩, prog_5_method_11_code, 7, some .boolean, 4, 1, 22, false),
  (⟨"GrownTown$Laws", "number", "(III)I"⟩, prog_5_method_10_code, 8, some .int, 3, 1, 22, false),
  (⟨"GrownTown$Notes", "<init>", "()V"⟩, prog_6_method_1_code, 1, none, 0, 1, 20, false),
  (⟨"GrownTown$Notes", "add", "(IIII)I"⟩, prog_6_method_2_code, 5, some .int, 4, 1, 22, false),
  (⟨"GrownTown$Notes", "latest", "(III)I"⟩, prog_6_method_3_code, 5, some .int, 3, 1, 21, false),
  (⟨"GrownTown$Notes", "useIn", "(I)I"⟩, prog_6_method_4_code, 2, some .int, 1, 0, 0, false),
  (⟨"GrownTown$Plans", "<init>", "()V"⟩, prog_7_method_1_code, 1, none, 0, 1, 20, false),
  (⟨"GrownTown$Plans", "add", "(III)I"⟩, prog_7_method_3_code, 4, some .int, 3, 1, 22, false),
  (⟨"GrownTown$Plans", "choose", "(LGrownTown$Town;I)V"⟩, prog_7_method_7_code, 7, none, 2, 6, 141, false),
  (⟨"GrownTown$Plans", "costOf", "(I)I"⟩, prog_7_method_8_code, 4, some .int, 1, 2, 43, false),
  (⟨"GrownTown$Plans", "isIn", "(II)Z"⟩, prog_7_method_6_code, 3, some .boolean, 2, 1, 21, false),
  (⟨"GrownTown$Plans", "has", "(I)Z"⟩, prog_7_method_2_code, 2, some .boolean, 1, 0, 0, false)]
def zmt2 : List (MethodName × ByteArray × Nat × Option FieldType × Nat × Nat × Nat × Bool) := [(⟨"GrownTown$Plans", "canBe", "(ILGrownTown$Board;)Z"⟩, prog_7_method_9_code, 8, some .boolean, 2, 2, 43, false),
  (⟨"GrownTown$Plans", "plotOf", "(I)I"⟩, prog_7_method_4_code, 2, some .int, 1, 1, 21, false),
  (⟨"GrownTown$Plans", "sumAfter", "(ILGrownTown$Town;)I"⟩, prog_7_method_10_code, 5, some .int, 2, 5, 117, false),
  (⟨"GrownTown$Plans", "kindOf", "(I)I"⟩, prog_7_method_5_code, 2, some .int, 1, 1, 21, false),
  (⟨"GrownTown$Plans", "put", "(LGrownTown$Board;II)V"⟩, prog_7_method_11_code, 3, none, 3, 3, 66, true),
  (⟨"GrownTown$Plans", "takeBack", "(LGrownTown$Board;I)V"⟩, prog_7_method_12_code, 2, none, 2, 3, 66, true),
  (⟨"GrownTown$Seekers", "<init>", "()V"⟩, prog_8_method_1_code, 1, none, 0, 1, 20, false),
  (⟨"GrownTown$Seekers", "ownerOf", "(I)I"⟩, prog_8_method_8_code, 3, some .int, 1, 2, 42, false),
  (⟨"GrownTown$Seekers", "plotOf", "(I)I"⟩, prog_8_method_7_code, 2, some .int, 1, 1, 21, false),
  (⟨"GrownTown$Seekers", "has", "(I)Z"⟩, prog_8_method_2_code, 2, some .boolean, 1, 0, 0, false),
  (⟨"GrownTown$Seekers", "leave", "(I)V"⟩, prog_8_method_11_code, 2, none, 1, 1, 21, false),
  (⟨"GrownTownLaw", "part", "(II)I"⟩, method_2_code, 2, some .int, 2, 0, 0, true),
  (⟨"GrownTownLaw", "part", "(II)I"⟩, method_2_code, 2, some .int, 2, 0, 0, true),
  (⟨"GrownTownLaw", "part", "(II)I"⟩, method_2_code, 2, some .int, 2, 0, 0, true),
  (⟨"GrownTown$Seekers", "waits", "(II)Z"⟩, prog_8_method_10_code, 3, some .boolean, 2, 1, 21, false),
  (⟨"GrownTown$Seekers", "want", "(II)Z"⟩, prog_8_method_13_code, 4, some .boolean, 2, 2, 43, false),
  (⟨"GrownTown$Seekers", "see", "(IIIIZ)V"⟩, prog_8_method_14_code, 6, none, 5, 1, 22, false),
  (⟨"GrownTown$Seekers", "settle", "(II)V"⟩, prog_8_method_15_code, 6, none, 2, 4, 96, false),
  (⟨"GrownTown$Seekers", "heldBy", "(I)I"⟩, prog_8_method_9_code, 2, some .int, 1, 1, 21, false),
  (⟨"GrownTown$Seekers", "ask", "(II)Z"⟩, prog_8_method_16_code, 5, some .boolean, 2, 3, 72, false),
  (⟨"GrownTown$Seekers", "bestPlot", "(II)I"⟩, prog_8_method_19_code, 9, some .int, 2, 2, 44, false),
  (⟨"GrownTown$Seekers", "valueOf", "(II)I"⟩, prog_8_method_18_code, 3, some .int, 2, 1, 22, false),
  (⟨"GrownTown$Seekers", "outbids", "(II)Z"⟩, prog_8_method_17_code, 3, some .boolean, 2, 1, 21, false),
  (⟨"GrownTown$Seekers", "own", "(II)V"⟩, prog_8_method_12_code, 3, none, 2, 1, 21, false),
  (⟨"GrownTown$Seekers", "useOf", "(I)I"⟩, prog_8_method_6_code, 2, some .int, 1, 1, 21, false),
  (⟨"GrownTown$Sheets", "<init>", "()V"⟩, prog_9_method_1_code, 1, none, 0, 1, 23, false),
  (⟨"GrownTownLaw", "part", "(II)I"⟩, method_2_code, 2, some .int, 2, 0, 0, true),
  (⟨"GrownTown$Sheets", "isNothing", "(I)Z"⟩, prog_9_method_3_code, 2, some .boolean, 1, 2, 43, false),
  (⟨"GrownTown$Sheets", "sizeOf", "(I)I"⟩, prog_9_method_2_code, 2, some .int, 1, 1, 22, false),
  (⟨"GrownTownLaw", "part", "(II)I"⟩, method_2_code, 2, some .int, 2, 0, 0, true),
  (⟨"GrownTownLaw", "part", "(II)I"⟩, method_2_code, 2, some .int, 2, 0, 0, true),
  (⟨"GrownTownLaw", "part", "(II)I"⟩, method_2_code, 2, some .int, 2, 0, 0, true),
  (⟨"GrownTownLaw", "part", "(II)I"⟩, method_2_code, 2, some .int, 2, 0, 0, true),
  (⟨"GrownTown$Town", "<init>", "()V"⟩, prog_10_method_1_code, 1, none, 0, 5, 110, false),
  (⟨"GrownTown$Town", "begin", "(II)V"⟩, prog_10_method_2_code, 3, none, 2, 4, 90, false),
  (⟨"GrownTown$Town", "canGround", "(I)Z"⟩, prog_10_method_3_code, 2, some .boolean, 1, 1, 21, false),
  (⟨"GrownTown$Town", "canUse", "(II)Z"⟩, prog_10_method_4_code, 3, some .boolean, 2, 1, 21, false),
  (⟨"GrownTown$Town", "putUse", "(II)I"⟩, prog_10_method_5_code, 3, some .int, 2, 3, 66, false),
  (⟨"GrownTown$Town", "worthOf", "(II)I"⟩, prog_10_method_7_code, 5, some .int, 2, 3, 70, false),
  (⟨"GrownTown$Town", "adds", "(III)I"⟩, prog_10_method_6_code, 6, some .int, 3, 2, 45, false)]
def zmt3 : List (MethodName × ByteArray × Nat × Option FieldType × Nat × Nat × Nat × Bool) := [(⟨"GrownTown$Town", "mayBecome", "(II)Z"⟩, prog_10_method_9_code, 4, some .boolean, 2, 2, 49, false),
  (⟨"GrownTown$Town", "showPlots", "()V"⟩, prog_10_method_10_code, 3, none, 0, 4, 94, false),
  (⟨"GrownTown$Town", "grow", "()I"⟩, prog_10_method_11_code, 5, some .int, 0, 5, 121, false),
  (⟨"GrownTown$Town", "settleIn", "()I"⟩, prog_10_method_12_code, 4, some .int, 0, 3, 66, false),
  (⟨"GrownTown$Town", "takeTaxes", "()I"⟩, prog_10_method_13_code, 6, some .int, 0, 4, 94, false),
  (⟨"GrownTown$Town", "sendAway", "()I"⟩, prog_10_method_14_code, 5, some .int, 0, 3, 66, false),
  (⟨"GrownTown$Town", "putFigure", "(II)V"⟩, prog_10_method_15_code, 3, none, 2, 1, 22, false),
  (⟨"GrownTown$Town", "remembers", "(I)Z"⟩, prog_10_method_16_code, 2, some .boolean, 1, 0, 0, false),
  (⟨"GrownTown$Town", "usedIn", "(II)I"⟩, prog_10_method_17_code, 3, some .int, 2, 1, 21, false),
  (⟨"GrownTownLaw", "part", "(II)I"⟩, method_2_code, 2, some .int, 2, 0, 0, true),
  (⟨"GrownTown$Town", "sumOfWorths", "()I"⟩, prog_10_method_8_code, 4, some .int, 0, 4, 94, false),
  (⟨"GrownTown$Trips", "<init>", "(LGrownTown$Ways;)V"⟩, prog_11_method_1_code, 2, none, 1, 1, 20, false),
  (⟨"GrownTown$Trips", "forget", "()V"⟩, prog_11_method_2_code, 1, none, 0, 0, 0, false),
  (⟨"GrownTownLaw", "part", "(II)I"⟩, method_2_code, 2, some .int, 2, 0, 0, true),
  (⟨"GrownTownLaw", "part", "(II)I"⟩, method_2_code, 2, some .int, 2, 0, 0, true),
  (⟨"GrownTownLaw", "part", "(II)I"⟩, method_2_code, 2, some .int, 2, 0, 0, true),
  (⟨"GrownTownLaw", "part", "(II)I"⟩, method_2_code, 2, some .int, 2, 0, 0, true),
  (⟨"GrownTownLaw", "part", "(II)I"⟩, method_2_code, 2, some .int, 2, 0, 0, true),
  (⟨"GrownTownLaw", "part", "(II)I"⟩, method_2_code, 2, some .int, 2, 0, 0, true),
  (⟨"GrownTownLaw", "part", "(II)I"⟩, method_2_code, 2, some .int, 2, 0, 0, true),
  (⟨"GrownTownLaw", "part", "(II)I"⟩, method_2_code, 2, some .int, 2, 0, 0, true),
  (⟨"GrownTownLaw", "part", "(II)I"⟩, method_2_code, 2, some .int, 2, 0, 0, true),
  (⟨"GrownTownLaw", "part", "(II)I"⟩, method_2_code, 2, some .int, 2, 0, 0, true),
  (⟨"GrownTownLaw", "part", "(II)I"⟩, method_2_code, 2, some .int, 2, 0, 0, true),
  (⟨"GrownTownLaw", "part", "(II)I"⟩, method_2_code, 2, some .int, 2, 0, 0, true),
  (⟨"GrownTownLaw", "part", "(II)I"⟩, method_2_code, 2, some .int, 2, 0, 0, true),
  (⟨"GrownTown$Ways", "<init>", "(LGrownTown$Board;)V"⟩, prog_12_method_1_code, 2, none, 1, 1, 20, false),
  (⟨"GrownTown$Ways", "forgetTrams", "()V"⟩, prog_12_method_3_code, 1, none, 0, 1, 23, false),
  (⟨"GrownTownLaw", "part", "(II)I"⟩, method_2_code, 2, some .int, 2, 0, 0, true),
  (⟨"GrownTownLaw", "part", "(II)I"⟩, method_2_code, 2, some .int, 2, 0, 0, true),
  (⟨"GrownTownLaw", "part", "(II)I"⟩, method_2_code, 2, some .int, 2, 0, 0, true),
  (⟨"GrownTownLaw", "part", "(II)I"⟩, method_2_code, 2, some .int, 2, 0, 0, true),
  (⟨"GrownTownLaw", "part", "(II)I"⟩, method_2_code, 2, some .int, 2, 0, 0, true),
  (⟨"GrownTownLaw", "part", "(II)I"⟩, method_2_code, 2, some .int, 2, 0, 0, true),
  (⟨"GrownTownLaw", "part", "(II)I"⟩, method_2_code, 2, some .int, 2, 0, 0, true),
  (⟨"GrownTownLaw", "part", "(II)I"⟩, method_2_code, 2, some .int, 2, 0, 0, true),
  (⟨"GrownTownLaw", "part", "(II)I"⟩, method_2_code, 2, some .int, 2, 0, 0, true),
  (⟨"GrownTownLaw", "part", "(II)I"⟩, method_2_code, 2, some .int, 2, 0, 0, true),
  (⟨"GrownTownLaw", "part", "(II)I"⟩, method_2_code, 2, some .int, 2, 0, 0, true),
  (⟨"GrownTownLaw", "part", "(II)I"⟩, method_2_code, 2, some .int, 2, 0, 0, true)]
def zmt4 : List (MethodName × ByteArray × Nat × Option FieldType × Nat × Nat × Nat × Bool) := [(⟨"GrownTownLaw", "part", "(II)I"⟩, method_2_code, 2, some .int, 2, 0, 0, true),
  (⟨"GrownTownLaw", "part", "(II)I"⟩, method_2_code, 2, some .int, 2, 0, 0, true),
  (⟨"GrownTownLaw", "part", "(II)I"⟩, method_2_code, 2, some .int, 2, 0, 0, true),
  (⟨"GrownTownLaw", "part", "(II)I"⟩, method_2_code, 2, some .int, 2, 0, 0, true),
  (⟨"GrownTownLaw", "part", "(II)I"⟩, method_2_code, 2, some .int, 2, 0, 0, true),
  (⟨"GrownTownLaw", "part", "(II)I"⟩, method_2_code, 2, some .int, 2, 0, 0, true),
  (⟨"GrownTownLaw", "part", "(II)I"⟩, method_2_code, 2, some .int, 2, 0, 0, true),
  (⟨"GrownTownLaw", "part", "(II)I"⟩, method_2_code, 2, some .int, 2, 0, 0, true),
  (⟨"GrownTownLaw", "part", "(II)I"⟩, method_2_code, 2, some .int, 2, 0, 0, true),
  (⟨"GrownTownLaw", "part", "(II)I"⟩, method_2_code, 2, some .int, 2, 0, 0, true),
  (⟨"GrownTownLaw", "part", "(II)I"⟩, method_2_code, 2, some .int, 2, 0, 0, true),
  (⟨"GrownTownLaw", "part", "(II)I"⟩, method_2_code, 2, some .int, 2, 0, 0, true),
  (⟨"GrownTownLaw", "part", "(II)I"⟩, method_2_code, 2, some .int, 2, 0, 0, true),
  (⟨"GrownTownLaw", "part", "(II)I"⟩, method_2_code, 2, some .int, 2, 0, 0, true),
  (⟨"GrownTownLaw", "part", "(II)I"⟩, method_2_code, 2, some .int, 2, 0, 0, true),
  (⟨"GrownTownLaw", "part", "(II)I"⟩, method_2_code, 2, some .int, 2, 0, 0, true),
  (⟨"GrownTownLaw", "part", "(II)I"⟩, method_2_code, 2, some .int, 2, 0, 0, true),
  (⟨"GrownTownLaw", "part", "(II)I"⟩, method_2_code, 2, some .int, 2, 0, 0, true),
  (⟨"GrownTown", "<init>", "()V"⟩, prog_1_method_1_code, 1, none, 0, 6, 130, false),
  (⟨"GrownTown", "within", "(III)Z"⟩, prog_1_method_39_code, 3, some .boolean, 3, 0, 0, true),
  (⟨"GrownTown", "bit", "(I)J"⟩, prog_1_method_40_code, 1, some .long, 1, 0, 0, true),
  (⟨"GrownTown", "board", "(II)I"⟩, prog_1_method_2_code, 3, some .int, 2, 5, 112, false),
  (⟨"GrownTown", "ground", "(II)I"⟩, prog_1_method_3_code, 3, some .int, 2, 3, 68, false),
  (⟨"GrownTown", "height", "(II)I"⟩, prog_1_method_4_code, 3, some .int, 2, 3, 68, false),
  (⟨"GrownTown", "use", "(II)I"⟩, prog_1_method_5_code, 3, some .int, 2, 4, 88, false),
  (⟨"GrownTown", "plot", "(II)I"⟩, prog_1_method_6_code, 3, some .int, 2, 3, 64, false),
  (⟨"GrownTown", "feed", "(J)I"⟩, prog_1_method_7_code, 3, some .int, 1, 1, 23, false),
  (⟨"GrownTown", "end", "(I)I"⟩, prog_1_method_8_code, 3, some .int, 1, 1, 22, false),
  (⟨"GrownTown", "laws", "()I"⟩, prog_1_method_9_code, 2, some .int, 0, 10, 219, false),
  (⟨"GrownTown", "fault", "()I"⟩, prog_1_method_10_code, 1, some .int, 0, 0, 0, false),
  (⟨"GrownTownLaw", "part", "(II)I"⟩, method_2_code, 2, some .int, 2, 0, 0, true),
  (⟨"GrownTownLaw", "part", "(II)I"⟩, method_2_code, 2, some .int, 2, 0, 0, true),
  (⟨"GrownTownLaw", "part", "(II)I"⟩, method_2_code, 2, some .int, 2, 0, 0, true),
  (⟨"GrownTownLaw", "part", "(II)I"⟩, method_2_code, 2, some .int, 2, 0, 0, true),
  (⟨"GrownTownLaw", "part", "(II)I"⟩, method_2_code, 2, some .int, 2, 0, 0, true),
  (⟨"GrownTownLaw", "part", "(II)I"⟩, method_2_code, 2, some .int, 2, 0, 0, true),
  (⟨"GrownTownLaw", "part", "(II)I"⟩, method_2_code, 2, some .int, 2, 0, 0, true),
  (⟨"GrownTown", "year", "()I"⟩, prog_1_method_18_code, 1, some .int, 0, 6, 145, false),
  (⟨"GrownTown", "was", "(II)I"⟩, prog_1_method_19_code, 3, some .int, 2, 2, 43, false),
  (⟨"GrownTownLaw", "part", "(II)I"⟩, method_2_code, 2, some .int, 2, 0, 0, true)]
def zmt5 : List (MethodName × ByteArray × Nat × Option FieldType × Nat × Nat × Nat × Bool) := [(⟨"GrownTownLaw", "part", "(II)I"⟩, method_2_code, 2, some .int, 2, 0, 0, true),
  (⟨"GrownTownLaw", "part", "(II)I"⟩, method_2_code, 2, some .int, 2, 0, 0, true),
  (⟨"GrownTownLaw", "part", "(II)I"⟩, method_2_code, 2, some .int, 2, 0, 0, true),
  (⟨"GrownTownLaw", "part", "(II)I"⟩, method_2_code, 2, some .int, 2, 0, 0, true),
  (⟨"GrownTownLaw", "part", "(II)I"⟩, method_2_code, 2, some .int, 2, 0, 0, true),
  (⟨"GrownTownLaw", "part", "(II)I"⟩, method_2_code, 2, some .int, 2, 0, 0, true),
  (⟨"GrownTownLaw", "part", "(II)I"⟩, method_2_code, 2, some .int, 2, 0, 0, true),
  (⟨"GrownTownLaw", "part", "(II)I"⟩, method_2_code, 2, some .int, 2, 0, 0, true),
  (⟨"GrownTownLaw", "part", "(II)I"⟩, method_2_code, 2, some .int, 2, 0, 0, true),
  (⟨"GrownTownLaw", "part", "(II)I"⟩, method_2_code, 2, some .int, 2, 0, 0, true),
  (⟨"GrownTownLaw", "part", "(II)I"⟩, method_2_code, 2, some .int, 2, 0, 0, true),
  (⟨"GrownTownLaw", "part", "(II)I"⟩, method_2_code, 2, some .int, 2, 0, 0, true),
  (⟨"GrownTown", "plan", "(III)I"⟩, prog_1_method_30_code, 4, some .int, 3, 2, 45, false),
  (⟨"GrownTown", "chosen", "(II)I"⟩, prog_1_method_31_code, 3, some .int, 2, 7, 167, false),
  (⟨"GrownTown", "build", "(I)I"⟩, prog_1_method_32_code, 4, some .int, 1, 5, 110, false),
  (⟨"GrownTown", "note", "(III)I"⟩, prog_1_method_33_code, 4, some .int, 3, 2, 46, false),
  (⟨"GrownTown", "known", "(III)I"⟩, prog_1_method_34_code, 5, some .int, 3, 2, 45, false),
  (⟨"GrownTownLaw", "part", "(II)I"⟩, method_2_code, 2, some .int, 2, 0, 0, true),
  (⟨"GrownTownLaw", "part", "(II)I"⟩, method_2_code, 2, some .int, 2, 0, 0, true),
  (⟨"GrownTownLaw", "part", "(II)I"⟩, method_2_code, 2, some .int, 2, 0, 0, true),
  (⟨"GrownTownLaw", "part", "(II)I"⟩, method_2_code, 2, some .int, 2, 0, 0, true),
  (⟨"GrownTownLaw", "part", "(II)I"⟩, method_2_code, 2, some .int, 2, 0, 0, true),
  (⟨"GrownTownLaw", "part", "(II)I"⟩, method_2_code, 2, some .int, 2, 0, 0, true),
  (⟨"GrownTownLaw", "part", "(II)I"⟩, method_2_code, 2, some .int, 2, 0, 0, true),
  (⟨"GrownTownLaw", "part", "(II)I"⟩, method_2_code, 2, some .int, 2, 0, 0, true),
  (⟨"GrownTownLaw", "part", "(II)I"⟩, method_2_code, 2, some .int, 2, 0, 0, true),
  (⟨"GrownTown", "count", "(I)I"⟩, prog_1_method_38_code, 2, some .int, 1, 3, 64, false),
  (⟨"GrownTownLaw", "part", "(II)I"⟩, method_2_code, 2, some .int, 2, 0, 0, true),
  (⟨"GrownTownLaw", "part", "(II)I"⟩, method_2_code, 2, some .int, 2, 0, 0, true),
  (⟨"GrownTownLaw", "part", "(II)I"⟩, method_2_code, 2, some .int, 2, 0, 0, true),
  (⟨"GrownTownLaw", "part", "(II)I"⟩, method_2_code, 2, some .int, 2, 0, 0, true),
  (⟨"GrownTownLaw", "part", "(II)I"⟩, method_2_code, 2, some .int, 2, 0, 0, true),
  (⟨"GrownTownLaw", "part", "(II)I"⟩, method_2_code, 2, some .int, 2, 0, 0, true),
  (⟨"GrownTownLaw", "part", "(II)I"⟩, method_2_code, 2, some .int, 2, 0, 0, true),
  (⟨"GrownTownLaw", "part", "(II)I"⟩, method_2_code, 2, some .int, 2, 0, 0, true),
  (⟨"GrownTownLaw", "part", "(II)I"⟩, method_2_code, 2, some .int, 2, 0, 0, true),
  (⟨"GrownTownLaw", "part", "(II)I"⟩, method_2_code, 2, some .int, 2, 0, 0, true),
  (⟨"GrownTownLaw", "part", "(II)I"⟩, method_2_code, 2, some .int, 2, 0, 0, true),
  (⟨"GrownTownLaw", "part", "(II)I"⟩, method_2_code, 2, some .int, 2, 0, 0, true),
  (⟨"GrownTownLaw", "part", "(II)I"⟩, method_2_code, 2, some .int, 2, 0, 0, true)]
def zmt6 : List (MethodName × ByteArray × Nat × Option FieldType × Nat × Nat × Nat × Bool) := [(⟨"GrownTownLaw", "part", "(II)I"⟩, method_2_code, 2, some .int, 2, 0, 0, true),
  (⟨"GrownTownLaw", "part", "(II)I"⟩, method_2_code, 2, some .int, 2, 0, 0, true),
  (⟨"GrownTownLaw", "part", "(II)I"⟩, method_2_code, 2, some .int, 2, 0, 0, true),
  (⟨"GrownTownLaw", "part", "(II)I"⟩, method_2_code, 2, some .int, 2, 0, 0, true),
  (⟨"GrownTownLaw", "part", "(II)I"⟩, method_2_code, 2, some .int, 2, 0, 0, true),
  (⟨"GrownTownLaw", "part", "(II)I"⟩, method_2_code, 2, some .int, 2, 0, 0, true),
  (⟨"GrownTownLaw", "part", "(II)I"⟩, method_2_code, 2, some .int, 2, 0, 0, true),
  (⟨"GrownTownLaw", "part", "(II)I"⟩, method_2_code, 2, some .int, 2, 0, 0, true),
  (⟨"GrownTownLaw", "part", "(II)I"⟩, method_2_code, 2, some .int, 2, 0, 0, true),
  (⟨"GrownTownLaw", "part", "(II)I"⟩, method_2_code, 2, some .int, 2, 0, 0, true),
  (⟨"GrownTownLaw", "part", "(II)I"⟩, method_2_code, 2, some .int, 2, 0, 0, true),
  (⟨"GrownTownLaw", "part", "(II)I"⟩, method_2_code, 2, some .int, 2, 0, 0, true),
  (⟨"GrownTownLaw", "part", "(II)I"⟩, method_2_code, 2, some .int, 2, 0, 0, true),
  (⟨"GrownTownLaw", "part", "(II)I"⟩, method_2_code, 2, some .int, 2, 0, 0, true),
  (⟨"GrownTownLaw", "part", "(II)I"⟩, method_2_code, 2, some .int, 2, 0, 0, true),
  (⟨"GrownTownLaw", "part", "(II)I"⟩, method_2_code, 2, some .int, 2, 0, 0, true),
  (⟨"GrownTownLaw", "part", "(II)I"⟩, method_2_code, 2, some .int, 2, 0, 0, true),
  (⟨"GrownTownLaw", "part", "(II)I"⟩, method_2_code, 2, some .int, 2, 0, 0, true),
  (⟨"GrownTownLaw", "part", "(II)I"⟩, method_2_code, 2, some .int, 2, 0, 0, true),
  (⟨"GrownTownLaw", "part", "(II)I"⟩, method_2_code, 2, some .int, 2, 0, 0, true),
  (⟨"GrownTownLaw", "part", "(II)I"⟩, method_2_code, 2, some .int, 2, 0, 0, true),
  (⟨"GrownTownLaw", "part", "(II)I"⟩, method_2_code, 2, some .int, 2, 0, 0, true),
  (⟨"GrownTownLaw", "part", "(II)I"⟩, method_2_code, 2, some .int, 2, 0, 0, true),
  (⟨"GrownTownLaw", "part", "(II)I"⟩, method_2_code, 2, some .int, 2, 0, 0, true),
  (⟨"GrownTownLaw", "part", "(II)I"⟩, method_2_code, 2, some .int, 2, 0, 0, true),
  (⟨"GrownTownLaw", "part", "(II)I"⟩, method_2_code, 2, some .int, 2, 0, 0, true),
  (⟨"GrownTownLaw", "part", "(II)I"⟩, method_2_code, 2, some .int, 2, 0, 0, true),
  (⟨"GrownTownLaw", "part", "(II)I"⟩, method_2_code, 2, some .int, 2, 0, 0, true),
  (⟨"GrownTownLaw", "part", "(II)I"⟩, method_2_code, 2, some .int, 2, 0, 0, true),
  (⟨"GrownTownLaw", "part", "(II)I"⟩, method_2_code, 2, some .int, 2, 0, 0, true),
  (⟨"GrownTownLaw", "part", "(II)I"⟩, method_2_code, 2, some .int, 2, 0, 0, true),
  (⟨"GrownTownLaw", "part", "(II)I"⟩, method_2_code, 2, some .int, 2, 0, 0, true),
  (⟨"GrownTownLaw", "part", "(II)I"⟩, method_2_code, 2, some .int, 2, 0, 0, true),
  (⟨"GrownTownLaw", "part", "(II)I"⟩, method_2_code, 2, some .int, 2, 0, 0, true),
  (⟨"GrownTownLaw", "part", "(II)I"⟩, method_2_code, 2, some .int, 2, 0, 0, true),
  (⟨"GrownTownLaw", "part", "(II)I"⟩, method_2_code, 2, some .int, 2, 0, 0, true),
  (⟨"GrownTownLaw", "part", "(II)I"⟩, method_2_code, 2, some .int, 2, 0, 0, true),
  (⟨"GrownTownLaw", "part", "(II)I"⟩, method_2_code, 2, some .int, 2, 0, 0, true),
  (⟨"GrownTownLaw", "part", "(II)I"⟩, method_2_code, 2, some .int, 2, 0, 0, true),
  (⟨"GrownTownLaw", "part", "(II)I"⟩, method_2_code, 2, some .int, 2, 0, 0, true)]
def zmt7 : List (MethodName × ByteArray × Nat × Option FieldType × Nat × Nat × Nat × Bool) := [(⟨"GrownTownLaw", "part", "(II)I"⟩, method_2_code, 2, some .int, 2, 0, 0, true),
  (⟨"GrownTownLaw", "part", "(II)I"⟩, method_2_code, 2, some .int, 2, 0, 0, true),
  (⟨"GrownTownLaw", "part", "(II)I"⟩, method_2_code, 2, some .int, 2, 0, 0, true),
  (⟨"GrownTownLaw", "part", "(II)I"⟩, method_2_code, 2, some .int, 2, 0, 0, true),
  (⟨"GrownTownLaw", "part", "(II)I"⟩, method_2_code, 2, some .int, 2, 0, 0, true),
  (⟨"GrownTownLaw", "part", "(II)I"⟩, method_2_code, 2, some .int, 2, 0, 0, true),
  (⟨"GrownTownLaw", "part", "(II)I"⟩, method_2_code, 2, some .int, 2, 0, 0, true),
  (⟨"GrownTownLaw", "part", "(II)I"⟩, method_2_code, 2, some .int, 2, 0, 0, true),
  (⟨"GrownTownLaw", "part", "(II)I"⟩, method_2_code, 2, some .int, 2, 0, 0, true),
  (⟨"GrownTownLaw", "part", "(II)I"⟩, method_2_code, 2, some .int, 2, 0, 0, true),
  (⟨"GrownTownLaw", "part", "(II)I"⟩, method_2_code, 2, some .int, 2, 0, 0, true),
  (⟨"GrownTownLaw", "part", "(II)I"⟩, method_2_code, 2, some .int, 2, 0, 0, true),
  (⟨"GrownTownLaw", "part", "(II)I"⟩, method_2_code, 2, some .int, 2, 0, 0, true),
  (⟨"GrownTownLaw", "part", "(II)I"⟩, method_2_code, 2, some .int, 2, 0, 0, true),
  (⟨"GrownTownLaw", "part", "(II)I"⟩, method_2_code, 2, some .int, 2, 0, 0, true),
  (⟨"GrownTownLaw", "part", "(II)I"⟩, method_2_code, 2, some .int, 2, 0, 0, true),
  (⟨"GrownTownLaw", "part", "(II)I"⟩, method_2_code, 2, some .int, 2, 0, 0, true),
  (⟨"GrownTownLaw", "part", "(II)I"⟩, method_2_code, 2, some .int, 2, 0, 0, true),
  (⟨"GrownTownLaw", "part", "(II)I"⟩, method_2_code, 2, some .int, 2, 0, 0, true),
  (⟨"GrownTownLaw", "part", "(II)I"⟩, method_2_code, 2, some .int, 2, 0, 0, true),
  (⟨"GrownTownLaw", "part", "(II)I"⟩, method_2_code, 2, some .int, 2, 0, 0, true),
  (⟨"GrownTownLaw", "part", "(II)I"⟩, method_2_code, 2, some .int, 2, 0, 0, true),
  (⟨"GrownTownLaw", "part", "(II)I"⟩, method_2_code, 2, some .int, 2, 0, 0, true),
  (⟨"GrownTownLaw", "part", "(II)I"⟩, method_2_code, 2, some .int, 2, 0, 0, true),
  (⟨"GrownTownLaw", "part", "(II)I"⟩, method_2_code, 2, some .int, 2, 0, 0, true),
  (⟨"GrownTownLaw", "part", "(II)I"⟩, method_2_code, 2, some .int, 2, 0, 0, true),
  (⟨"GrownTownLaw", "part", "(II)I"⟩, method_2_code, 2, some .int, 2, 0, 0, true),
  (⟨"GrownTownLaw", "part", "(II)I"⟩, method_2_code, 2, some .int, 2, 0, 0, true),
  (⟨"GrownTownLaw", "part", "(II)I"⟩, method_2_code, 2, some .int, 2, 0, 0, true),
  (⟨"GrownTownLaw", "part", "(II)I"⟩, method_2_code, 2, some .int, 2, 0, 0, true),
  (⟨"GrownTownLaw", "part", "(II)I"⟩, method_2_code, 2, some .int, 2, 0, 0, true),
  (⟨"GrownTownLaw", "part", "(II)I"⟩, method_2_code, 2, some .int, 2, 0, 0, true),
  (⟨"GrownTownLaw", "part", "(II)I"⟩, method_2_code, 2, some .int, 2, 0, 0, true),
  (⟨"GrownTownLaw", "part", "(II)I"⟩, method_2_code, 2, some .int, 2, 0, 0, true),
  (⟨"GrownTownLaw", "part", "(II)I"⟩, method_2_code, 2, some .int, 2, 0, 0, true),
  (⟨"GrownTownLaw", "part", "(II)I"⟩, method_2_code, 2, some .int, 2, 0, 0, true),
  (⟨"GrownTownLaw", "part", "(II)I"⟩, method_2_code, 2, some .int, 2, 0, 0, true),
  (⟨"GrownTownLaw", "part", "(II)I"⟩, method_2_code, 2, some .int, 2, 0, 0, true),
  (⟨"GrownTownLaw", "part", "(II)I"⟩, method_2_code, 2, some .int, 2, 0, 0, true),
  (⟨"java/util/Arrays", "fill", "([II)V"⟩, prog_20_method_103_code, 4, none, 2, 0, 0, true)]
def zmt8 : List (MethodName × ByteArray × Nat × Option FieldType × Nat × Nat × Nat × Bool) := [(⟨"java/util/Arrays", "fill", "([JJ)V"⟩, prog_20_method_101_code, 5, none, 2, 0, 0, true),
  (⟨"java/lang/Long", "bitCount", "(J)I"⟩, prog_15_method_50_code, 2, some .int, 1, 0, 0, true),
  (⟨"GrownTownLaw", "part", "(II)I"⟩, method_2_code, 2, some .int, 2, 0, 0, true),
  (⟨"GrownTownLaw", "cell", "([II)I"⟩, method_3_code, 2, some .int, 2, 0, 0, true),
  (⟨"GrownTownLaw", "lawText", "([I[IIII[I)I"⟩, method_7_code, 11, some .int, 6, 2, 48, true),
  (⟨"GrownTownLaw", "put", "([IIJ)I"⟩, method_4_code, 7, some .int, 3, 0, 0, true),
  (⟨"GrownTownLaw", "number", "([III)I"⟩, method_5_code, 5, some .int, 3, 0, 0, true),
  (⟨"GrownTownLaw", "use", "([III)I"⟩, method_6_code, 3, some .int, 3, 1, 26, true),
  (⟨"GrownTownLaw", "feeds", "(LGrownTown;[II[I[J)V"⟩, method_8_code, 6, none, 5, 2, 45, true),
  (⟨"GrownTownLaw", "tells", "(LGrownTown;[I[J)I"⟩, method_9_code, 6, some .int, 3, 11, 240, true),
  (⟨"GrownTownLaw", "town", "(LGrownTown;[II[I[I[II)I"⟩, method_10_code, 19, some .int, 7, 12, 265, true),
  (⟨"GrownTownLaw", "far", "(III)I"⟩, method_11_code, 5, some .int, 3, 0, 0, true)]
def zmt : List (MethodName × ByteArray × Nat × Option FieldType × Nat × Nat × Nat × Bool) := zmt0 ++ (zmt1 ++ (zmt2 ++ (zmt3 ++ (zmt4 ++ (zmt5 ++ (zmt6 ++ (zmt7 ++ (zmt8))))))))
def zcn : Nat → String := fun n => (["GrownTown$Acts", "GrownTown$Board", "GrownTown$LawText", "GrownTown$Laws", "GrownTown$Notes", "GrownTown$Plans", "GrownTown$Seekers", "GrownTown$Sheets", "GrownTown$Town", "GrownTown$Trips", "GrownTown$Ways", "GrownTown", "GrownTownModel", "GrownTownLaw", "java/util/Arrays", "java/lang/Long"] : List String).getD n ""
def zM0 : MethodName × ByteArray × Nat × Option FieldType × Nat × Nat × Nat × Bool := (x, code, maxLocals, ret, 1, 0, 0, true)
def zme (y : Nat) : MethodName × ByteArray × Nat × Option FieldType × Nat × Nat × Nat × Bool := zmt.getD y zM0
def zmn (y : Nat) : MethodName := (zme y).1
def zmb (y : Nat) : ByteArray := (zme y).2.1
def zml (y : Nat) : Nat := (zme y).2.2.1
def zmr (y : Nat) : Option FieldType := (zme y).2.2.2.1
def zma (y : Nat) : Nat := (zme y).2.2.2.2.1
def zmf (y : Nat) : Nat := (zme y).2.2.2.2.2.1
def zmo (y : Nat) : Nat := (zme y).2.2.2.2.2.2.1
def zms (y : Nat) : Bool := (zme y).2.2.2.2.2.2.2
def zcode (y pc : Nat) : Option (Instr × Nat) := match decode (zmb y) pc with
  | .ok r => some r
  | .error _ => none
set_option maxRecDepth 100000 in
def zow : List Nat := [13, 0, 0, 0, 0, 0, 0, 13, 13, 13, 13, 13, 1, 1, 1, 1, 1, 1, 1, 1, 1, 1, 1, 1, 1, 1, 1, 1, 1, 1, 1, 13, 2, 2, 2, 2, 2, 2, 2, 2, 2, 2, 2, 2, 2, 2, 2, 2, 2, 2, 2, 2, 2, 2, 2, 2, 2, 2, 2, 3, 3, 3, 3, 3, 3, 3, 13, 13, 3, 3, 4, 4, 4, 4, 5, 5, 5, 5, 5, 5, 5, 5, 5, 5, 5, 5, 6, 6, 6, 6, 6, 13, 13, 13, 6, 6, 6, 6, 6, 6, 6, 6, 6, 6, 6, 7, 13, 7, 7, 13, 13, 13, 13, 8, 8, 8, 8, 8, 8, 8, 8, 8, 8, 8, 8, 8, 8, 8, 8, 13, 8, 9, 9, 13, 13, 13, 13, 13, 13, 13, 13, 13, 13, 13, 13, 13, 10, 10, 13, 13, 13, 13, 13, 13, 13, 13, 13, 13, 13, 13, 13, 13, 13, 13, 13, 13, 13, 13, 13, 13, 13, 13, 13, 13, 13, 13, 13, 13, 11, 11, 11, 11, 11, 11, 11, 11, 11, 11, 11, 11, 13, 13, 13, 13, 13, 13, 13, 11, 11, 13, 13, 13, 13, 13, 13, 13, 13, 13, 13, 13, 13, 13, 11, 11, 11, 11, 11, 13, 13, 13, 13, 13, 13, 13, 13, 13, 11, 13, 13, 13, 13, 13, 13, 13, 13, 13, 13, 13, 13, 13, 13, 13, 13, 13, 13, 13, 13, 13, 13, 13, 13, 13, 13, 13, 13, 13, 13, 13, 13, 13, 13, 13, 13, 13, 13, 13, 13, 13, 13, 13, 13, 13, 13, 13, 13, 13, 13, 13, 13, 13, 13, 13, 13, 13, 13, 13, 13, 13, 13, 13, 13, 13, 13, 13, 13, 13, 13, 13, 13, 13, 13, 13, 13, 13, 13, 13, 13, 13, 13, 13, 13, 13, 13, 13, 13, 13, 13, 13, 13, 14, 14, 15, 13, 13, 13, 13, 13, 13, 13, 13, 13, 13]
def zoc (y : Nat) : Nat := zow.getD y 99
theorem z_own : (List.range 332).all (fun y => decide ((zmn y).cls = zcn (zoc y))) = true := by decide +kernel
set_option maxRecDepth 100000 in
def zcp : List Nat := [255, 1132, 534, 538, 543, 1107, 874, 874, 874, 874, 874, 78, 83, 96, 100, 104, 111, 521, 587, 810, 813, 573, 1150, 530, 568, 583, 629, 644, 660, 732, 874, 280, 913, 929, 933, 937, 941, 945, 949, 953, 957, 961, 965, 968, 984, 1036, 1040, 1044, 1048, 1052, 1056, 1060, 1068, 1072, 1076, 1080, 1098, 1102, 151, 1064, 1084, 625, 1088, 1093, 1112, 874, 874, 650, 656, 447, 841, 850, 855, 415, 757, 771, 777, 781, 785, 789, 793, 799, 803, 806, 817, 167, 552, 556, 560, 564, 874, 874, 874, 613, 609, 664, 671, 677, 681, 685, 689, 696, 705, 709, 470, 874, 864, 868, 874, 874, 874, 874, 72, 1127, 831, 526, 548, 617, 621, 640, 605, 600, 700, 713, 724, 728, 742, 746, 874, 767, 371, 1141, 874, 874, 874, 874, 874, 874, 874, 874, 874, 874, 874, 874, 874, 322, 1136, 874, 874, 874, 874, 874, 874, 874, 874, 874, 874, 874, 874, 874, 874, 874, 874, 874, 874, 874, 874, 874, 874, 874, 874, 874, 874, 874, 874, 874, 874, 64, 86, 114, 1123, 827, 1146, 517, 578, 909, 921, 925, 592, 874, 874, 874, 874, 874, 874, 874, 596, 738, 874, 874, 874, 874, 874, 874, 874, 874, 874, 874, 874, 874, 874, 752, 762, 821, 837, 846, 874, 874, 874, 874, 874, 874, 874, 874, 874, 859, 874, 874, 874, 874, 874, 874, 874, 874, 874, 874, 874, 874, 874, 874, 874, 874, 874, 874, 874, 874, 874, 874, 874, 874, 874, 874, 874, 874, 874, 874, 874, 874, 874, 874, 874, 874, 874, 874, 874, 874, 874, 874, 874, 874, 874, 874, 874, 874, 874, 874, 874, 874, 874, 874, 874, 874, 874, 874, 874, 874, 874, 874, 874, 874, 874, 874, 874, 874, 874, 874, 874, 874, 874, 874, 874, 874, 874, 874, 874, 874, 874, 874, 874, 874, 874, 874, 874, 874, 874, 874, 874, 874, 89, 92, 632, 874, 878, 882, 886, 889, 897, 905, 916, 1119, 1153]
def zcw (y : Nat) : Cond := .code (zmn y) (zmb y) (zml y) (zmr y)
set_option maxRecDepth 100000 in
theorem z_c1 : zcw 1 ∈ lw_tbl := List.mem_of_getElem? (i := 255) (show lw_tbl[255]? = some (.code ⟨"GrownTown$Acts", "<init>", "()V"⟩ prog_2_method_1_code 1 (none)) from rfl)
set_option maxRecDepth 100000 in
theorem z_c2 : zcw 2 ∈ lw_tbl := List.mem_of_getElem? (i := 1132) (show lw_tbl[1132]? = some (.code ⟨"GrownTown$Acts", "forget", "()V"⟩ prog_2_method_2_code 1 (none)) from rfl)
set_option maxRecDepth 100000 in
theorem z_c3 : zcw 3 ∈ lw_tbl := List.mem_of_getElem? (i := 534) (show lw_tbl[534]? = some (.code ⟨"GrownTown$Acts", "areFull", "()Z"⟩ prog_2_method_3_code 1 (some .boolean)) from rfl)
set_option maxRecDepth 100000 in
theorem z_c4 : zcw 4 ∈ lw_tbl := List.mem_of_getElem? (i := 538) (show lw_tbl[538]? = some (.code ⟨"GrownTown$Acts", "keep", "(IIII)V"⟩ prog_2_method_4_code 5 (none)) from rfl)
set_option maxRecDepth 100000 in
theorem z_c5 : zcw 5 ∈ lw_tbl := List.mem_of_getElem? (i := 543) (show lw_tbl[543]? = some (.code ⟨"GrownTown$Acts", "putNumber", "(II)V"⟩ prog_2_method_7_code 3 (none)) from rfl)
set_option maxRecDepth 100000 in
theorem z_c6 : zcw 6 ∈ lw_tbl := List.mem_of_getElem? (i := 1107) (show lw_tbl[1107]? = some (.code ⟨"GrownTown$Acts", "keepLaws", "(ILGrownTown$Laws;)V"⟩ prog_2_method_6_code 3 (none)) from rfl)
set_option maxRecDepth 100000 in
theorem z_c7 : zcw 7 ∈ lw_tbl := List.mem_of_getElem? (i := 874) (show lw_tbl[874]? = some (.code ⟨"GrownTownLaw", "part", "(II)I"⟩ method_2_code 2 (some .int)) from rfl)
set_option maxRecDepth 100000 in
theorem z_c8 : zcw 8 ∈ lw_tbl := List.mem_of_getElem? (i := 874) (show lw_tbl[874]? = some (.code ⟨"GrownTownLaw", "part", "(II)I"⟩ method_2_code 2 (some .int)) from rfl)
set_option maxRecDepth 100000 in
theorem z_c9 : zcw 9 ∈ lw_tbl := List.mem_of_getElem? (i := 874) (show lw_tbl[874]? = some (.code ⟨"GrownTownLaw", "part", "(II)I"⟩ method_2_code 2 (some .int)) from rfl)
set_option maxRecDepth 100000 in
theorem z_c10 : zcw 10 ∈ lw_tbl := List.mem_of_getElem? (i := 874) (show lw_tbl[874]? = some (.code ⟨"GrownTownLaw", "part", "(II)I"⟩ method_2_code 2 (some .int)) from rfl)
set_option maxRecDepth 100000 in
theorem z_c11 : zcw 11 ∈ lw_tbl := List.mem_of_getElem? (i := 874) (show lw_tbl[874]? = some (.code ⟨"GrownTownLaw", "part", "(II)I"⟩ method_2_code 2 (some .int)) from rfl)
set_option maxRecDepth 100000 in
theorem z_c12 : zcw 12 ∈ lw_tbl := List.mem_of_getElem? (i := 78) (show lw_tbl[78]? = some (.code ⟨"GrownTown$Board", "<init>", "()V"⟩ prog_3_method_1_code 1 (none)) from rfl)
set_option maxRecDepth 100000 in
theorem z_c13 : zcw 13 ∈ lw_tbl := List.mem_of_getElem? (i := 83) (show lw_tbl[83]? = some (.code ⟨"GrownTown$Board", "begin", "(II)V"⟩ prog_3_method_2_code 4 (none)) from rfl)
set_option maxRecDepth 100000 in
theorem z_c14 : zcw 14 ∈ lw_tbl := List.mem_of_getElem? (i := 96) (show lw_tbl[96]? = some (.code ⟨"GrownTown$Board", "measureNear", "()V"⟩ prog_3_method_3_code 5 (none)) from rfl)
set_option maxRecDepth 100000 in
theorem z_c15 : zcw 15 ∈ lw_tbl := List.mem_of_getElem? (i := 100) (show lw_tbl[100]? = some (.code ⟨"GrownTown$Board", "far", "(II)I"⟩ prog_3_method_7_code 3 (some .int)) from rfl)
set_option maxRecDepth 100000 in
theorem z_c16 : zcw 16 ∈ lw_tbl := List.mem_of_getElem? (i := 104) (show lw_tbl[104]? = some (.code ⟨"GrownTown$Board", "xOf", "(I)I"⟩ prog_3_method_5_code 2 (some .int)) from rfl)
set_option maxRecDepth 100000 in
theorem z_c17 : zcw 17 ∈ lw_tbl := List.mem_of_getElem? (i := 111) (show lw_tbl[111]? = some (.code ⟨"GrownTown$Board", "yOf", "(I)I"⟩ prog_3_method_6_code 2 (some .int)) from rfl)
set_option maxRecDepth 100000 in
theorem z_c18 : zcw 18 ∈ lw_tbl := List.mem_of_getElem? (i := 521) (show lw_tbl[521]? = some (.code ⟨"GrownTown$Board", "has", "(I)Z"⟩ prog_3_method_4_code 2 (some .boolean)) from rfl)
set_option maxRecDepth 100000 in
theorem z_c19 : zcw 19 ∈ lw_tbl := List.mem_of_getElem? (i := 587) (show lw_tbl[587]? = some (.code ⟨"GrownTown$Board", "useOf", "(I)I"⟩ prog_3_method_11_code 2 (some .int)) from rfl)
set_option maxRecDepth 100000 in
theorem z_c20 : zcw 20 ∈ lw_tbl := List.mem_of_getElem? (i := 810) (show lw_tbl[810]? = some (.code ⟨"GrownTown$Board", "putGround", "(II)I"⟩ prog_3_method_13_code 4 (some .int)) from rfl)
set_option maxRecDepth 100000 in
theorem z_c21 : zcw 21 ∈ lw_tbl := List.mem_of_getElem? (i := 813) (show lw_tbl[813]? = some (.code ⟨"GrownTown$Board", "thingOfGround", "(I)I"⟩ prog_3_method_16_code 1 (some .int)) from rfl)
set_option maxRecDepth 100000 in
theorem z_c22 : zcw 22 ∈ lw_tbl := List.mem_of_getElem? (i := 573) (show lw_tbl[573]? = some (.code ⟨"GrownTown$Board", "becomeThing", "(III)V"⟩ prog_3_method_17_code 4 (none)) from rfl)
set_option maxRecDepth 100000 in
theorem z_c23 : zcw 23 ∈ lw_tbl := List.mem_of_getElem? (i := 1150) (show lw_tbl[1150]? = some (.code ⟨"GrownTown$Board", "putHeight", "(II)I"⟩ prog_3_method_14_code 4 (some .int)) from rfl)
set_option maxRecDepth 100000 in
theorem z_c24 : zcw 24 ∈ lw_tbl := List.mem_of_getElem? (i := 530) (show lw_tbl[530]? = some (.code ⟨"GrownTown$Board", "groundOf", "(I)I"⟩ prog_3_method_9_code 2 (some .int)) from rfl)
set_option maxRecDepth 100000 in
theorem z_c25 : zcw 25 ∈ lw_tbl := List.mem_of_getElem? (i := 568) (show lw_tbl[568]? = some (.code ⟨"GrownTown$Board", "putUse", "(II)I"⟩ prog_3_method_15_code 4 (some .int)) from rfl)
set_option maxRecDepth 100000 in
theorem z_c26 : zcw 26 ∈ lw_tbl := List.mem_of_getElem? (i := 583) (show lw_tbl[583]? = some (.code ⟨"GrownTown$Board", "heightOf", "(I)I"⟩ prog_3_method_10_code 2 (some .int)) from rfl)
set_option maxRecDepth 100000 in
theorem z_c27 : zcw 27 ∈ lw_tbl := List.mem_of_getElem? (i := 629) (show lw_tbl[629]? = some (.code ⟨"GrownTown$Board", "countNear", "(III)I"⟩ prog_3_method_20_code 5 (some .int)) from rfl)
set_option maxRecDepth 100000 in
theorem z_c28 : zcw 28 ∈ lw_tbl := List.mem_of_getElem? (i := 644) (show lw_tbl[644]? = some (.code ⟨"GrownTown$Board", "isFree", "(I)Z"⟩ prog_3_method_12_code 2 (some .boolean)) from rfl)
set_option maxRecDepth 100000 in
theorem z_c29 : zcw 29 ∈ lw_tbl := List.mem_of_getElem? (i := 660) (show lw_tbl[660]? = some (.code ⟨"GrownTown$Board", "countUse", "(I)I"⟩ prog_3_method_18_code 2 (some .int)) from rfl)
set_option maxRecDepth 100000 in
theorem z_c30 : zcw 30 ∈ lw_tbl := List.mem_of_getElem? (i := 732) (show lw_tbl[732]? = some (.code ⟨"GrownTown$Board", "countUsed", "()I"⟩ prog_3_method_19_code 1 (some .int)) from rfl)
set_option maxRecDepth 100000 in
theorem z_c31 : zcw 31 ∈ lw_tbl := List.mem_of_getElem? (i := 874) (show lw_tbl[874]? = some (.code ⟨"GrownTownLaw", "part", "(II)I"⟩ method_2_code 2 (some .int)) from rfl)
set_option maxRecDepth 100000 in
theorem z_c32 : zcw 32 ∈ lw_tbl := List.mem_of_getElem? (i := 280) (show lw_tbl[280]? = some (.code ⟨"GrownTown$LawText", "<init>", "()V"⟩ prog_4_method_1_code 1 (none)) from rfl)
set_option maxRecDepth 100000 in
theorem z_c33 : zcw 33 ∈ lw_tbl := List.mem_of_getElem? (i := 913) (show lw_tbl[913]? = some (.code ⟨"GrownTown$LawText", "append", "(J)Z"⟩ prog_4_method_2_code 4 (some .boolean)) from rfl)
set_option maxRecDepth 100000 in
theorem z_c34 : zcw 34 ∈ lw_tbl := List.mem_of_getElem? (i := 929) (show lw_tbl[929]? = some (.code ⟨"GrownTown$LawText", "readInto", "(LGrownTown$Laws;)Z"⟩ prog_4_method_17_code 3 (some .boolean)) from rfl)
set_option maxRecDepth 100000 in
theorem z_c35 : zcw 35 ∈ lw_tbl := List.mem_of_getElem? (i := 933) (show lw_tbl[933]? = some (.code ⟨"GrownTown$LawText", "split", "()V"⟩ prog_4_method_6_code 3 (none)) from rfl)
set_option maxRecDepth 100000 in
theorem z_c36 : zcw 36 ∈ lw_tbl := List.mem_of_getElem? (i := 937) (show lw_tbl[937]? = some (.code ⟨"GrownTown$LawText", "isLastOne", "()Z"⟩ prog_4_method_7_code 1 (some .boolean)) from rfl)
set_option maxRecDepth 100000 in
theorem z_c37 : zcw 37 ∈ lw_tbl := List.mem_of_getElem? (i := 941) (show lw_tbl[941]? = some (.code ⟨"GrownTown$LawText", "behindBlanks", "(I)I"⟩ prog_4_method_8_code 3 (some .int)) from rfl)
set_option maxRecDepth 100000 in
theorem z_c38 : zcw 38 ∈ lw_tbl := List.mem_of_getElem? (i := 945) (show lw_tbl[945]? = some (.code ⟨"GrownTown$LawText", "byteAt", "(I)I"⟩ prog_4_method_3_code 2 (some .int)) from rfl)
set_option maxRecDepth 100000 in
theorem z_c39 : zcw 39 ∈ lw_tbl := List.mem_of_getElem? (i := 949) (show lw_tbl[949]? = some (.code ⟨"GrownTown$LawText", "addTokenAt", "(I)I"⟩ prog_4_method_11_code 3 (some .int)) from rfl)
set_option maxRecDepth 100000 in
theorem z_c40 : zcw 40 ∈ lw_tbl := List.mem_of_getElem? (i := 953) (show lw_tbl[953]? = some (.code ⟨"GrownTown$LawText", "addToken", "(III)V"⟩ prog_4_method_12_code 4 (none)) from rfl)
set_option maxRecDepth 100000 in
theorem z_c41 : zcw 41 ∈ lw_tbl := List.mem_of_getElem? (i := 957) (show lw_tbl[957]? = some (.code ⟨"GrownTown$LawText", "isLetter", "(I)Z"⟩ prog_4_method_4_code 2 (some .boolean)) from rfl)
set_option maxRecDepth 100000 in
theorem z_c42 : zcw 42 ∈ lw_tbl := List.mem_of_getElem? (i := 961) (show lw_tbl[961]? = some (.code ⟨"GrownTown$LawText", "behindLetters", "(I)I"⟩ prog_4_method_9_code 3 (some .int)) from rfl)
set_option maxRecDepth 100000 in
theorem z_c43 : zcw 43 ∈ lw_tbl := List.mem_of_getElem? (i := 965) (show lw_tbl[965]? = some (.code ⟨"GrownTown$LawText", "addName", "(II)V"⟩ prog_4_method_13_code 4 (none)) from rfl)
set_option maxRecDepth 100000 in
theorem z_c44 : zcw 44 ∈ lw_tbl := List.mem_of_getElem? (i := 968) (show lw_tbl[968]? = some (.code ⟨"GrownTown$LawText", "word", "(I)Ljava/lang/String;"⟩ prog_4_method_15_code 1 (some (.object "java/lang/String"))) from rfl)
set_option maxRecDepth 100000 in
theorem z_c45 : zcw 45 ∈ lw_tbl := List.mem_of_getElem? (i := 984) (show lw_tbl[984]? = some (.code ⟨"GrownTown$LawText", "spells", "(Ljava/lang/String;II)Z"⟩ prog_4_method_14_code 5 (some .boolean)) from rfl)
set_option maxRecDepth 100000 in
theorem z_c46 : zcw 46 ∈ lw_tbl := List.mem_of_getElem? (i := 1036) (show lw_tbl[1036]? = some (.code ⟨"GrownTown$LawText", "isFigure", "(I)Z"⟩ prog_4_method_5_code 2 (some .boolean)) from rfl)
set_option maxRecDepth 100000 in
theorem z_c47 : zcw 47 ∈ lw_tbl := List.mem_of_getElem? (i := 1040) (show lw_tbl[1040]? = some (.code ⟨"GrownTown$LawText", "behindFigures", "(I)I"⟩ prog_4_method_10_code 3 (some .int)) from rfl)
set_option maxRecDepth 100000 in
theorem z_c48 : zcw 48 ∈ lw_tbl := List.mem_of_getElem? (i := 1044) (show lw_tbl[1044]? = some (.code ⟨"GrownTown$LawText", "addNumber", "(II)V"⟩ prog_4_method_16_code 8 (none)) from rfl)
set_option maxRecDepth 100000 in
theorem z_c49 : zcw 49 ∈ lw_tbl := List.mem_of_getElem? (i := 1048) (show lw_tbl[1048]? = some (.code ⟨"GrownTown$LawText", "nextKind", "()I"⟩ prog_4_method_18_code 1 (some .int)) from rfl)
set_option maxRecDepth 100000 in
theorem z_c50 : zcw 50 ∈ lw_tbl := List.mem_of_getElem? (i := 1052) (show lw_tbl[1052]? = some (.code ⟨"GrownTown$LawText", "readLaw", "(LGrownTown$Laws;)Z"⟩ prog_4_method_24_code 6 (some .boolean)) from rfl)
set_option maxRecDepth 100000 in
theorem z_c51 : zcw 51 ∈ lw_tbl := List.mem_of_getElem? (i := 1056) (show lw_tbl[1056]? = some (.code ⟨"GrownTown$LawText", "isNext", "(III)Z"⟩ prog_4_method_20_code 5 (some .boolean)) from rfl)
set_option maxRecDepth 100000 in
theorem z_c52 : zcw 52 ∈ lw_tbl := List.mem_of_getElem? (i := 1060) (show lw_tbl[1060]? = some (.code ⟨"GrownTown$LawText", "refuse", "(I)Z"⟩ prog_4_method_19_code 3 (some .boolean)) from rfl)
set_option maxRecDepth 100000 in
theorem z_c53 : zcw 53 ∈ lw_tbl := List.mem_of_getElem? (i := 1068) (show lw_tbl[1068]? = some (.code ⟨"GrownTown$LawText", "take", "()V"⟩ prog_4_method_21_code 1 (none)) from rfl)
set_option maxRecDepth 100000 in
theorem z_c54 : zcw 54 ∈ lw_tbl := List.mem_of_getElem? (i := 1072) (show lw_tbl[1072]? = some (.code ⟨"GrownTown$LawText", "takeNumber", "(II)Z"⟩ prog_4_method_23_code 3 (some .boolean)) from rfl)
set_option maxRecDepth 100000 in
theorem z_c55 : zcw 55 ∈ lw_tbl := List.mem_of_getElem? (i := 1076) (show lw_tbl[1076]? = some (.code ⟨"GrownTown$LawText", "takeWord", "(II)Z"⟩ prog_4_method_22_code 3 (some .boolean)) from rfl)
set_option maxRecDepth 100000 in
theorem z_c56 : zcw 56 ∈ lw_tbl := List.mem_of_getElem? (i := 1080) (show lw_tbl[1080]? = some (.code ⟨"GrownTown$LawText", "nextUse", "()I"⟩ prog_4_method_25_code 1 (some .int)) from rfl)
set_option maxRecDepth 100000 in
theorem z_c57 : zcw 57 ∈ lw_tbl := List.mem_of_getElem? (i := 1098) (show lw_tbl[1098]? = some (.code ⟨"GrownTown$LawText", "readNumbers", "(ILGrownTown$Laws;I)Z"⟩ prog_4_method_26_code 4 (some .boolean)) from rfl)
set_option maxRecDepth 100000 in
theorem z_c58 : zcw 58 ∈ lw_tbl := List.mem_of_getElem? (i := 1102) (show lw_tbl[1102]? = some (.code ⟨"GrownTown$LawText", "readNumber", "(LGrownTown$Laws;IIII)Z"⟩ prog_4_method_27_code 6 (some .boolean)) from rfl)
set_option maxRecDepth 100000 in
theorem z_c59 : zcw 59 ∈ lw_tbl := List.mem_of_getElem? (i := 151) (show lw_tbl[151]? = some (.code ⟨"GrownTown$Laws", "<init>", "()V"⟩ prog_5_method_1_code 1 (none)) from rfl)
set_option maxRecDepth 100000 in
theorem z_c60 : zcw 60 ∈ lw_tbl := List.mem_of_getElem? (i := 1064) (show lw_tbl[1064]? = some (.code ⟨"GrownTown$Laws", "areFull", "()Z"⟩ prog_5_method_3_code 1 (some .boolean)) from rfl)
set_option maxRecDepth 100000 in
theorem z_c61 : zcw 61 ∈ lw_tbl := List.mem_of_getElem? (i := 1084) (show lw_tbl[1084]? = some (.code ⟨"GrownTown$Laws", "tell", "(III)Z"⟩ prog_5_method_8_code 5 (some .boolean)) from rfl)
set_option maxRecDepth 100000 in
theorem z_c62 : zcw 62 ∈ lw_tbl := List.mem_of_getElem? (i := 625) (show lw_tbl[625]? = some (.code ⟨"GrownTown$Laws", "at", "(II)I"⟩ prog_5_method_4_code 3 (some .int)) from rfl)
set_option maxRecDepth 100000 in
theorem z_c63 : zcw 63 ∈ lw_tbl := List.mem_of_getElem? (i := 1088) (show lw_tbl[1088]? = some (.code ⟨"GrownTown$Laws", "add", "(II)I"⟩ prog_5_method_6_code 5 (some .int)) from rfl)
set_option maxRecDepth 100000 in
theorem z_c64 : zcw 64 ∈ lw_tbl := List.mem_of_getElem? (i := 1093) (show lw_tbl[1093]? = some (.code ⟨"GrownTown$Laws", "put", "(III)V"⟩ prog_5_method_5_code 4 (none)) from rfl)
set_option maxRecDepth 100000 in
theorem z_c65 : zcw 65 ∈ lw_tbl := List.mem_of_getElem? (i := 1112) (show lw_tbl[1112]? = some (.code ⟨"GrownTown$Laws", "take", "(LGrownTown$Laws;I)V"⟩ prog_5_method_7_code 6 (none)) from rfl)
set_option maxRecDepth 100000 in
theorem z_c66 : zcw 66 ∈ lw_tbl := List.mem_of_getElem? (i := 874) (show lw_tbl[874]? = some (.code ⟨"GrownTownLaw", "part", "(II)I"⟩ method_2_code 2 (some .int)) from rfl)
set_option maxRecDepth 100000 in
theorem z_c67 : zcw 67 ∈ lw_tbl := List.mem_of_getElem? (i := 874) (show lw_tbl[874]? = some (.code ⟨"GrownTownLaw", "part", "(II)I"⟩ method_2_code 2 (some .int)) from rfl)
set_option maxRecDepth 100000 in
theorem z_c68 : zcw 68 ∈ lw_tbl := List.mem_of_getElem? (i := 650) (show lw_tbl[650]? = some (.code ⟨"GrownTown$Laws", "zonesAllow", "(IIII)Z"⟩ prog_5_method_11_code 7 (some .boolean)) from rfl)
set_option maxRecDepth 100000 in
theorem z_c69 : zcw 69 ∈ lw_tbl := List.mem_of_getElem? (i := 656) (show lw_tbl[656]? = some (.code ⟨"GrownTown$Laws", "number", "(III)I"⟩ prog_5_method_10_code 8 (some .int)) from rfl)
set_option maxRecDepth 100000 in
theorem z_c70 : zcw 70 ∈ lw_tbl := List.mem_of_getElem? (i := 447) (show lw_tbl[447]? = some (.code ⟨"GrownTown$Notes", "<init>", "()V"⟩ prog_6_method_1_code 1 (none)) from rfl)
set_option maxRecDepth 100000 in
theorem z_c71 : zcw 71 ∈ lw_tbl := List.mem_of_getElem? (i := 841) (show lw_tbl[841]? = some (.code ⟨"GrownTown$Notes", "add", "(IIII)I"⟩ prog_6_method_2_code 5 (some .int)) from rfl)
set_option maxRecDepth 100000 in
theorem z_c72 : zcw 72 ∈ lw_tbl := List.mem_of_getElem? (i := 850) (show lw_tbl[850]? = some (.code ⟨"GrownTown$Notes", "latest", "(III)I"⟩ prog_6_method_3_code 5 (some .int)) from rfl)
set_option maxRecDepth 100000 in
theorem z_c73 : zcw 73 ∈ lw_tbl := List.mem_of_getElem? (i := 855) (show lw_tbl[855]? = some (.code ⟨"GrownTown$Notes", "useIn", "(I)I"⟩ prog_6_method_4_code 2 (some .int)) from rfl)
set_option maxRecDepth 100000 in
theorem z_c74 : zcw 74 ∈ lw_tbl := List.mem_of_getElem? (i := 415) (show lw_tbl[415]? = some (.code ⟨"GrownTown$Plans", "<init>", "()V"⟩ prog_7_method_1_code 1 (none)) from rfl)
set_option maxRecDepth 100000 in
theorem z_c75 : zcw 75 ∈ lw_tbl := List.mem_of_getElem? (i := 757) (show lw_tbl[757]? = some (.code ⟨"GrownTown$Plans", "add", "(III)I"⟩ prog_7_method_3_code 4 (some .int)) from rfl)
set_option maxRecDepth 100000 in
theorem z_c76 : zcw 76 ∈ lw_tbl := List.mem_of_getElem? (i := 771) (show lw_tbl[771]? = some (.code ⟨"GrownTown$Plans", "choose", "(LGrownTown$Town;I)V"⟩ prog_7_method_7_code 7 (none)) from rfl)
set_option maxRecDepth 100000 in
theorem z_c77 : zcw 77 ∈ lw_tbl := List.mem_of_getElem? (i := 777) (show lw_tbl[777]? = some (.code ⟨"GrownTown$Plans", "costOf", "(I)I"⟩ prog_7_method_8_code 4 (some .int)) from rfl)
set_option maxRecDepth 100000 in
theorem z_c78 : zcw 78 ∈ lw_tbl := List.mem_of_getElem? (i := 781) (show lw_tbl[781]? = some (.code ⟨"GrownTown$Plans", "isIn", "(II)Z"⟩ prog_7_method_6_code 3 (some .boolean)) from rfl)
set_option maxRecDepth 100000 in
theorem z_c79 : zcw 79 ∈ lw_tbl := List.mem_of_getElem? (i := 785) (show lw_tbl[785]? = some (.code ⟨"GrownTown$Plans", "has", "(I)Z"⟩ prog_7_method_2_code 2 (some .boolean)) from rfl)
set_option maxRecDepth 100000 in
theorem z_c80 : zcw 80 ∈ lw_tbl := List.mem_of_getElem? (i := 789) (show lw_tbl[789]? = some (.code ⟨"GrownTown$Plans", "canBe", "(ILGrownTown$Board;)Z"⟩ prog_7_method_9_code 8 (some .boolean)) from rfl)
set_option maxRecDepth 100000 in
theorem z_c81 : zcw 81 ∈ lw_tbl := List.mem_of_getElem? (i := 793) (show lw_tbl[793]? = some (.code ⟨"GrownTown$Plans", "plotOf", "(I)I"⟩ prog_7_method_4_code 2 (some .int)) from rfl)
set_option maxRecDepth 100000 in
theorem z_c82 : zcw 82 ∈ lw_tbl := List.mem_of_getElem? (i := 799) (show lw_tbl[799]? = some (.code ⟨"GrownTown$Plans", "sumAfter", "(ILGrownTown$Town;)I"⟩ prog_7_method_10_code 5 (some .int)) from rfl)
set_option maxRecDepth 100000 in
theorem z_c83 : zcw 83 ∈ lw_tbl := List.mem_of_getElem? (i := 803) (show lw_tbl[803]? = some (.code ⟨"GrownTown$Plans", "kindOf", "(I)I"⟩ prog_7_method_5_code 2 (some .int)) from rfl)
set_option maxRecDepth 100000 in
theorem z_c84 : zcw 84 ∈ lw_tbl := List.mem_of_getElem? (i := 806) (show lw_tbl[806]? = some (.code ⟨"GrownTown$Plans", "put", "(LGrownTown$Board;II)V"⟩ prog_7_method_11_code 3 (none)) from rfl)
set_option maxRecDepth 100000 in
theorem z_c85 : zcw 85 ∈ lw_tbl := List.mem_of_getElem? (i := 817) (show lw_tbl[817]? = some (.code ⟨"GrownTown$Plans", "takeBack", "(LGrownTown$Board;I)V"⟩ prog_7_method_12_code 2 (none)) from rfl)
set_option maxRecDepth 100000 in
theorem z_c86 : zcw 86 ∈ lw_tbl := List.mem_of_getElem? (i := 167) (show lw_tbl[167]? = some (.code ⟨"GrownTown$Seekers", "<init>", "()V"⟩ prog_8_method_1_code 1 (none)) from rfl)
set_option maxRecDepth 100000 in
theorem z_c87 : zcw 87 ∈ lw_tbl := List.mem_of_getElem? (i := 552) (show lw_tbl[552]? = some (.code ⟨"GrownTown$Seekers", "ownerOf", "(I)I"⟩ prog_8_method_8_code 3 (some .int)) from rfl)
set_option maxRecDepth 100000 in
theorem z_c88 : zcw 88 ∈ lw_tbl := List.mem_of_getElem? (i := 556) (show lw_tbl[556]? = some (.code ⟨"GrownTown$Seekers", "plotOf", "(I)I"⟩ prog_8_method_7_code 2 (some .int)) from rfl)
set_option maxRecDepth 100000 in
theorem z_c89 : zcw 89 ∈ lw_tbl := List.mem_of_getElem? (i := 560) (show lw_tbl[560]? = some (.code ⟨"GrownTown$Seekers", "has", "(I)Z"⟩ prog_8_method_2_code 2 (some .boolean)) from rfl)
set_option maxRecDepth 100000 in
theorem z_c90 : zcw 90 ∈ lw_tbl := List.mem_of_getElem? (i := 564) (show lw_tbl[564]? = some (.code ⟨"GrownTown$Seekers", "leave", "(I)V"⟩ prog_8_method_11_code 2 (none)) from rfl)
set_option maxRecDepth 100000 in
theorem z_c91 : zcw 91 ∈ lw_tbl := List.mem_of_getElem? (i := 874) (show lw_tbl[874]? = some (.code ⟨"GrownTownLaw", "part", "(II)I"⟩ method_2_code 2 (some .int)) from rfl)
set_option maxRecDepth 100000 in
theorem z_c92 : zcw 92 ∈ lw_tbl := List.mem_of_getElem? (i := 874) (show lw_tbl[874]? = some (.code ⟨"GrownTownLaw", "part", "(II)I"⟩ method_2_code 2 (some .int)) from rfl)
set_option maxRecDepth 100000 in
theorem z_c93 : zcw 93 ∈ lw_tbl := List.mem_of_getElem? (i := 874) (show lw_tbl[874]? = some (.code ⟨"GrownTownLaw", "part", "(II)I"⟩ method_2_code 2 (some .int)) from rfl)
set_option maxRecDepth 100000 in
theorem z_c94 : zcw 94 ∈ lw_tbl := List.mem_of_getElem? (i := 613) (show lw_tbl[613]? = some (.code ⟨"GrownTown$Seekers", "waits", "(II)Z"⟩ prog_8_method_10_code 3 (some .boolean)) from rfl)
set_option maxRecDepth 100000 in
theorem z_c95 : zcw 95 ∈ lw_tbl := List.mem_of_getElem? (i := 609) (show lw_tbl[609]? = some (.code ⟨"GrownTown$Seekers", "want", "(II)Z"⟩ prog_8_method_13_code 4 (some .boolean)) from rfl)
set_option maxRecDepth 100000 in
theorem z_c96 : zcw 96 ∈ lw_tbl := List.mem_of_getElem? (i := 664) (show lw_tbl[664]? = some (.code ⟨"GrownTown$Seekers", "see", "(IIIIZ)V"⟩ prog_8_method_14_code 6 (none)) from rfl)
set_option maxRecDepth 100000 in
theorem z_c97 : zcw 97 ∈ lw_tbl := List.mem_of_getElem? (i := 671) (show lw_tbl[671]? = some (.code ⟨"GrownTown$Seekers", "settle", "(II)V"⟩ prog_8_method_15_code 6 (none)) from rfl)
set_option maxRecDepth 100000 in
theorem z_c98 : zcw 98 ∈ lw_tbl := List.mem_of_getElem? (i := 677) (show lw_tbl[677]? = some (.code ⟨"GrownTown$Seekers", "heldBy", "(I)I"⟩ prog_8_method_9_code 2 (some .int)) from rfl)
set_option maxRecDepth 100000 in
theorem z_c99 : zcw 99 ∈ lw_tbl := List.mem_of_getElem? (i := 681) (show lw_tbl[681]? = some (.code ⟨"GrownTown$Seekers", "ask", "(II)Z"⟩ prog_8_method_16_code 5 (some .boolean)) from rfl)
set_option maxRecDepth 100000 in
theorem z_c100 : zcw 100 ∈ lw_tbl := List.mem_of_getElem? (i := 685) (show lw_tbl[685]? = some (.code ⟨"GrownTown$Seekers", "bestPlot", "(II)I"⟩ prog_8_method_19_code 9 (some .int)) from rfl)
set_option maxRecDepth 100000 in
theorem z_c101 : zcw 101 ∈ lw_tbl := List.mem_of_getElem? (i := 689) (show lw_tbl[689]? = some (.code ⟨"GrownTown$Seekers", "valueOf", "(II)I"⟩ prog_8_method_18_code 3 (some .int)) from rfl)
set_option maxRecDepth 100000 in
theorem z_c102 : zcw 102 ∈ lw_tbl := List.mem_of_getElem? (i := 696) (show lw_tbl[696]? = some (.code ⟨"GrownTown$Seekers", "outbids", "(II)Z"⟩ prog_8_method_17_code 3 (some .boolean)) from rfl)
set_option maxRecDepth 100000 in
theorem z_c103 : zcw 103 ∈ lw_tbl := List.mem_of_getElem? (i := 705) (show lw_tbl[705]? = some (.code ⟨"GrownTown$Seekers", "own", "(II)V"⟩ prog_8_method_12_code 3 (none)) from rfl)
set_option maxRecDepth 100000 in
theorem z_c104 : zcw 104 ∈ lw_tbl := List.mem_of_getElem? (i := 709) (show lw_tbl[709]? = some (.code ⟨"GrownTown$Seekers", "useOf", "(I)I"⟩ prog_8_method_6_code 2 (some .int)) from rfl)
set_option maxRecDepth 100000 in
theorem z_c105 : zcw 105 ∈ lw_tbl := List.mem_of_getElem? (i := 470) (show lw_tbl[470]? = some (.code ⟨"GrownTown$Sheets", "<init>", "()V"⟩ prog_9_method_1_code 1 (none)) from rfl)
set_option maxRecDepth 100000 in
theorem z_c106 : zcw 106 ∈ lw_tbl := List.mem_of_getElem? (i := 874) (show lw_tbl[874]? = some (.code ⟨"GrownTownLaw", "part", "(II)I"⟩ method_2_code 2 (some .int)) from rfl)
set_option maxRecDepth 100000 in
theorem z_c107 : zcw 107 ∈ lw_tbl := List.mem_of_getElem? (i := 864) (show lw_tbl[864]? = some (.code ⟨"GrownTown$Sheets", "isNothing", "(I)Z"⟩ prog_9_method_3_code 2 (some .boolean)) from rfl)
set_option maxRecDepth 100000 in
theorem z_c108 : zcw 108 ∈ lw_tbl := List.mem_of_getElem? (i := 868) (show lw_tbl[868]? = some (.code ⟨"GrownTown$Sheets", "sizeOf", "(I)I"⟩ prog_9_method_2_code 2 (some .int)) from rfl)
set_option maxRecDepth 100000 in
theorem z_c109 : zcw 109 ∈ lw_tbl := List.mem_of_getElem? (i := 874) (show lw_tbl[874]? = some (.code ⟨"GrownTownLaw", "part", "(II)I"⟩ method_2_code 2 (some .int)) from rfl)
set_option maxRecDepth 100000 in
theorem z_c110 : zcw 110 ∈ lw_tbl := List.mem_of_getElem? (i := 874) (show lw_tbl[874]? = some (.code ⟨"GrownTownLaw", "part", "(II)I"⟩ method_2_code 2 (some .int)) from rfl)
set_option maxRecDepth 100000 in
theorem z_c111 : zcw 111 ∈ lw_tbl := List.mem_of_getElem? (i := 874) (show lw_tbl[874]? = some (.code ⟨"GrownTownLaw", "part", "(II)I"⟩ method_2_code 2 (some .int)) from rfl)
set_option maxRecDepth 100000 in
theorem z_c112 : zcw 112 ∈ lw_tbl := List.mem_of_getElem? (i := 874) (show lw_tbl[874]? = some (.code ⟨"GrownTownLaw", "part", "(II)I"⟩ method_2_code 2 (some .int)) from rfl)
set_option maxRecDepth 100000 in
theorem z_c113 : zcw 113 ∈ lw_tbl := List.mem_of_getElem? (i := 72) (show lw_tbl[72]? = some (.code ⟨"GrownTown$Town", "<init>", "()V"⟩ prog_10_method_1_code 1 (none)) from rfl)
set_option maxRecDepth 100000 in
theorem z_c114 : zcw 114 ∈ lw_tbl := List.mem_of_getElem? (i := 1127) (show lw_tbl[1127]? = some (.code ⟨"GrownTown$Town", "begin", "(II)V"⟩ prog_10_method_2_code 3 (none)) from rfl)
set_option maxRecDepth 100000 in
theorem z_c115 : zcw 115 ∈ lw_tbl := List.mem_of_getElem? (i := 831) (show lw_tbl[831]? = some (.code ⟨"GrownTown$Town", "canGround", "(I)Z"⟩ prog_10_method_3_code 2 (some .boolean)) from rfl)
set_option maxRecDepth 100000 in
theorem z_c116 : zcw 116 ∈ lw_tbl := List.mem_of_getElem? (i := 526) (show lw_tbl[526]? = some (.code ⟨"GrownTown$Town", "canUse", "(II)Z"⟩ prog_10_method_4_code 3 (some .boolean)) from rfl)
set_option maxRecDepth 100000 in
theorem z_c117 : zcw 117 ∈ lw_tbl := List.mem_of_getElem? (i := 548) (show lw_tbl[548]? = some (.code ⟨"GrownTown$Town", "putUse", "(II)I"⟩ prog_10_method_5_code 3 (some .int)) from rfl)
set_option maxRecDepth 100000 in
theorem z_c118 : zcw 118 ∈ lw_tbl := List.mem_of_getElem? (i := 617) (show lw_tbl[617]? = some (.code ⟨"GrownTown$Town", "worthOf", "(II)I"⟩ prog_10_method_7_code 5 (some .int)) from rfl)
set_option maxRecDepth 100000 in
theorem z_c119 : zcw 119 ∈ lw_tbl := List.mem_of_getElem? (i := 621) (show lw_tbl[621]? = some (.code ⟨"GrownTown$Town", "adds", "(III)I"⟩ prog_10_method_6_code 6 (some .int)) from rfl)
set_option maxRecDepth 100000 in
theorem z_c120 : zcw 120 ∈ lw_tbl := List.mem_of_getElem? (i := 640) (show lw_tbl[640]? = some (.code ⟨"GrownTown$Town", "mayBecome", "(II)Z"⟩ prog_10_method_9_code 4 (some .boolean)) from rfl)
set_option maxRecDepth 100000 in
theorem z_c121 : zcw 121 ∈ lw_tbl := List.mem_of_getElem? (i := 605) (show lw_tbl[605]? = some (.code ⟨"GrownTown$Town", "showPlots", "()V"⟩ prog_10_method_10_code 3 (none)) from rfl)
set_option maxRecDepth 100000 in
theorem z_c122 : zcw 122 ∈ lw_tbl := List.mem_of_getElem? (i := 600) (show lw_tbl[600]? = some (.code ⟨"GrownTown$Town", "grow", "()I"⟩ prog_10_method_11_code 5 (some .int)) from rfl)
set_option maxRecDepth 100000 in
theorem z_c123 : zcw 123 ∈ lw_tbl := List.mem_of_getElem? (i := 700) (show lw_tbl[700]? = some (.code ⟨"GrownTown$Town", "settleIn", "()I"⟩ prog_10_method_12_code 4 (some .int)) from rfl)
set_option maxRecDepth 100000 in
theorem z_c124 : zcw 124 ∈ lw_tbl := List.mem_of_getElem? (i := 713) (show lw_tbl[713]? = some (.code ⟨"GrownTown$Town", "takeTaxes", "()I"⟩ prog_10_method_13_code 6 (some .int)) from rfl)
set_option maxRecDepth 100000 in
theorem z_c125 : zcw 125 ∈ lw_tbl := List.mem_of_getElem? (i := 724) (show lw_tbl[724]? = some (.code ⟨"GrownTown$Town", "sendAway", "()I"⟩ prog_10_method_14_code 5 (some .int)) from rfl)
set_option maxRecDepth 100000 in
theorem z_c126 : zcw 126 ∈ lw_tbl := List.mem_of_getElem? (i := 728) (show lw_tbl[728]? = some (.code ⟨"GrownTown$Town", "putFigure", "(II)V"⟩ prog_10_method_15_code 3 (none)) from rfl)
set_option maxRecDepth 100000 in
theorem z_c127 : zcw 127 ∈ lw_tbl := List.mem_of_getElem? (i := 742) (show lw_tbl[742]? = some (.code ⟨"GrownTown$Town", "remembers", "(I)Z"⟩ prog_10_method_16_code 2 (some .boolean)) from rfl)
set_option maxRecDepth 100000 in
theorem z_c128 : zcw 128 ∈ lw_tbl := List.mem_of_getElem? (i := 746) (show lw_tbl[746]? = some (.code ⟨"GrownTown$Town", "usedIn", "(II)I"⟩ prog_10_method_17_code 3 (some .int)) from rfl)
set_option maxRecDepth 100000 in
theorem z_c129 : zcw 129 ∈ lw_tbl := List.mem_of_getElem? (i := 874) (show lw_tbl[874]? = some (.code ⟨"GrownTownLaw", "part", "(II)I"⟩ method_2_code 2 (some .int)) from rfl)
set_option maxRecDepth 100000 in
theorem z_c130 : zcw 130 ∈ lw_tbl := List.mem_of_getElem? (i := 767) (show lw_tbl[767]? = some (.code ⟨"GrownTown$Town", "sumOfWorths", "()I"⟩ prog_10_method_8_code 4 (some .int)) from rfl)
set_option maxRecDepth 100000 in
theorem z_c131 : zcw 131 ∈ lw_tbl := List.mem_of_getElem? (i := 371) (show lw_tbl[371]? = some (.code ⟨"GrownTown$Trips", "<init>", "(LGrownTown$Ways;)V"⟩ prog_11_method_1_code 2 (none)) from rfl)
set_option maxRecDepth 100000 in
theorem z_c132 : zcw 132 ∈ lw_tbl := List.mem_of_getElem? (i := 1141) (show lw_tbl[1141]? = some (.code ⟨"GrownTown$Trips", "forget", "()V"⟩ prog_11_method_2_code 1 (none)) from rfl)
set_option maxRecDepth 100000 in
theorem z_c133 : zcw 133 ∈ lw_tbl := List.mem_of_getElem? (i := 874) (show lw_tbl[874]? = some (.code ⟨"GrownTownLaw", "part", "(II)I"⟩ method_2_code 2 (some .int)) from rfl)
set_option maxRecDepth 100000 in
theorem z_c134 : zcw 134 ∈ lw_tbl := List.mem_of_getElem? (i := 874) (show lw_tbl[874]? = some (.code ⟨"GrownTownLaw", "part", "(II)I"⟩ method_2_code 2 (some .int)) from rfl)
set_option maxRecDepth 100000 in
theorem z_c135 : zcw 135 ∈ lw_tbl := List.mem_of_getElem? (i := 874) (show lw_tbl[874]? = some (.code ⟨"GrownTownLaw", "part", "(II)I"⟩ method_2_code 2 (some .int)) from rfl)
set_option maxRecDepth 100000 in
theorem z_c136 : zcw 136 ∈ lw_tbl := List.mem_of_getElem? (i := 874) (show lw_tbl[874]? = some (.code ⟨"GrownTownLaw", "part", "(II)I"⟩ method_2_code 2 (some .int)) from rfl)
set_option maxRecDepth 100000 in
theorem z_c137 : zcw 137 ∈ lw_tbl := List.mem_of_getElem? (i := 874) (show lw_tbl[874]? = some (.code ⟨"GrownTownLaw", "part", "(II)I"⟩ method_2_code 2 (some .int)) from rfl)
set_option maxRecDepth 100000 in
theorem z_c138 : zcw 138 ∈ lw_tbl := List.mem_of_getElem? (i := 874) (show lw_tbl[874]? = some (.code ⟨"GrownTownLaw", "part", "(II)I"⟩ method_2_code 2 (some .int)) from rfl)
set_option maxRecDepth 100000 in
theorem z_c139 : zcw 139 ∈ lw_tbl := List.mem_of_getElem? (i := 874) (show lw_tbl[874]? = some (.code ⟨"GrownTownLaw", "part", "(II)I"⟩ method_2_code 2 (some .int)) from rfl)
set_option maxRecDepth 100000 in
theorem z_c140 : zcw 140 ∈ lw_tbl := List.mem_of_getElem? (i := 874) (show lw_tbl[874]? = some (.code ⟨"GrownTownLaw", "part", "(II)I"⟩ method_2_code 2 (some .int)) from rfl)
set_option maxRecDepth 100000 in
theorem z_c141 : zcw 141 ∈ lw_tbl := List.mem_of_getElem? (i := 874) (show lw_tbl[874]? = some (.code ⟨"GrownTownLaw", "part", "(II)I"⟩ method_2_code 2 (some .int)) from rfl)
set_option maxRecDepth 100000 in
theorem z_c142 : zcw 142 ∈ lw_tbl := List.mem_of_getElem? (i := 874) (show lw_tbl[874]? = some (.code ⟨"GrownTownLaw", "part", "(II)I"⟩ method_2_code 2 (some .int)) from rfl)
set_option maxRecDepth 100000 in
theorem z_c143 : zcw 143 ∈ lw_tbl := List.mem_of_getElem? (i := 874) (show lw_tbl[874]? = some (.code ⟨"GrownTownLaw", "part", "(II)I"⟩ method_2_code 2 (some .int)) from rfl)
set_option maxRecDepth 100000 in
theorem z_c144 : zcw 144 ∈ lw_tbl := List.mem_of_getElem? (i := 874) (show lw_tbl[874]? = some (.code ⟨"GrownTownLaw", "part", "(II)I"⟩ method_2_code 2 (some .int)) from rfl)
set_option maxRecDepth 100000 in
theorem z_c145 : zcw 145 ∈ lw_tbl := List.mem_of_getElem? (i := 874) (show lw_tbl[874]? = some (.code ⟨"GrownTownLaw", "part", "(II)I"⟩ method_2_code 2 (some .int)) from rfl)
set_option maxRecDepth 100000 in
theorem z_c146 : zcw 146 ∈ lw_tbl := List.mem_of_getElem? (i := 322) (show lw_tbl[322]? = some (.code ⟨"GrownTown$Ways", "<init>", "(LGrownTown$Board;)V"⟩ prog_12_method_1_code 2 (none)) from rfl)
set_option maxRecDepth 100000 in
theorem z_c147 : zcw 147 ∈ lw_tbl := List.mem_of_getElem? (i := 1136) (show lw_tbl[1136]? = some (.code ⟨"GrownTown$Ways", "forgetTrams", "()V"⟩ prog_12_method_3_code 1 (none)) from rfl)
set_option maxRecDepth 100000 in
theorem z_c148 : zcw 148 ∈ lw_tbl := List.mem_of_getElem? (i := 874) (show lw_tbl[874]? = some (.code ⟨"GrownTownLaw", "part", "(II)I"⟩ method_2_code 2 (some .int)) from rfl)
set_option maxRecDepth 100000 in
theorem z_c149 : zcw 149 ∈ lw_tbl := List.mem_of_getElem? (i := 874) (show lw_tbl[874]? = some (.code ⟨"GrownTownLaw", "part", "(II)I"⟩ method_2_code 2 (some .int)) from rfl)
set_option maxRecDepth 100000 in
theorem z_c150 : zcw 150 ∈ lw_tbl := List.mem_of_getElem? (i := 874) (show lw_tbl[874]? = some (.code ⟨"GrownTownLaw", "part", "(II)I"⟩ method_2_code 2 (some .int)) from rfl)
set_option maxRecDepth 100000 in
theorem z_c151 : zcw 151 ∈ lw_tbl := List.mem_of_getElem? (i := 874) (show lw_tbl[874]? = some (.code ⟨"GrownTownLaw", "part", "(II)I"⟩ method_2_code 2 (some .int)) from rfl)
set_option maxRecDepth 100000 in
theorem z_c152 : zcw 152 ∈ lw_tbl := List.mem_of_getElem? (i := 874) (show lw_tbl[874]? = some (.code ⟨"GrownTownLaw", "part", "(II)I"⟩ method_2_code 2 (some .int)) from rfl)
set_option maxRecDepth 100000 in
theorem z_c153 : zcw 153 ∈ lw_tbl := List.mem_of_getElem? (i := 874) (show lw_tbl[874]? = some (.code ⟨"GrownTownLaw", "part", "(II)I"⟩ method_2_code 2 (some .int)) from rfl)
set_option maxRecDepth 100000 in
theorem z_c154 : zcw 154 ∈ lw_tbl := List.mem_of_getElem? (i := 874) (show lw_tbl[874]? = some (.code ⟨"GrownTownLaw", "part", "(II)I"⟩ method_2_code 2 (some .int)) from rfl)
set_option maxRecDepth 100000 in
theorem z_c155 : zcw 155 ∈ lw_tbl := List.mem_of_getElem? (i := 874) (show lw_tbl[874]? = some (.code ⟨"GrownTownLaw", "part", "(II)I"⟩ method_2_code 2 (some .int)) from rfl)
set_option maxRecDepth 100000 in
theorem z_c156 : zcw 156 ∈ lw_tbl := List.mem_of_getElem? (i := 874) (show lw_tbl[874]? = some (.code ⟨"GrownTownLaw", "part", "(II)I"⟩ method_2_code 2 (some .int)) from rfl)
set_option maxRecDepth 100000 in
theorem z_c157 : zcw 157 ∈ lw_tbl := List.mem_of_getElem? (i := 874) (show lw_tbl[874]? = some (.code ⟨"GrownTownLaw", "part", "(II)I"⟩ method_2_code 2 (some .int)) from rfl)
set_option maxRecDepth 100000 in
theorem z_c158 : zcw 158 ∈ lw_tbl := List.mem_of_getElem? (i := 874) (show lw_tbl[874]? = some (.code ⟨"GrownTownLaw", "part", "(II)I"⟩ method_2_code 2 (some .int)) from rfl)
set_option maxRecDepth 100000 in
theorem z_c159 : zcw 159 ∈ lw_tbl := List.mem_of_getElem? (i := 874) (show lw_tbl[874]? = some (.code ⟨"GrownTownLaw", "part", "(II)I"⟩ method_2_code 2 (some .int)) from rfl)
set_option maxRecDepth 100000 in
theorem z_c160 : zcw 160 ∈ lw_tbl := List.mem_of_getElem? (i := 874) (show lw_tbl[874]? = some (.code ⟨"GrownTownLaw", "part", "(II)I"⟩ method_2_code 2 (some .int)) from rfl)
set_option maxRecDepth 100000 in
theorem z_c161 : zcw 161 ∈ lw_tbl := List.mem_of_getElem? (i := 874) (show lw_tbl[874]? = some (.code ⟨"GrownTownLaw", "part", "(II)I"⟩ method_2_code 2 (some .int)) from rfl)
set_option maxRecDepth 100000 in
theorem z_c162 : zcw 162 ∈ lw_tbl := List.mem_of_getElem? (i := 874) (show lw_tbl[874]? = some (.code ⟨"GrownTownLaw", "part", "(II)I"⟩ method_2_code 2 (some .int)) from rfl)
set_option maxRecDepth 100000 in
theorem z_c163 : zcw 163 ∈ lw_tbl := List.mem_of_getElem? (i := 874) (show lw_tbl[874]? = some (.code ⟨"GrownTownLaw", "part", "(II)I"⟩ method_2_code 2 (some .int)) from rfl)
set_option maxRecDepth 100000 in
theorem z_c164 : zcw 164 ∈ lw_tbl := List.mem_of_getElem? (i := 874) (show lw_tbl[874]? = some (.code ⟨"GrownTownLaw", "part", "(II)I"⟩ method_2_code 2 (some .int)) from rfl)
set_option maxRecDepth 100000 in
theorem z_c165 : zcw 165 ∈ lw_tbl := List.mem_of_getElem? (i := 874) (show lw_tbl[874]? = some (.code ⟨"GrownTownLaw", "part", "(II)I"⟩ method_2_code 2 (some .int)) from rfl)
set_option maxRecDepth 100000 in
theorem z_c166 : zcw 166 ∈ lw_tbl := List.mem_of_getElem? (i := 874) (show lw_tbl[874]? = some (.code ⟨"GrownTownLaw", "part", "(II)I"⟩ method_2_code 2 (some .int)) from rfl)
set_option maxRecDepth 100000 in
theorem z_c167 : zcw 167 ∈ lw_tbl := List.mem_of_getElem? (i := 874) (show lw_tbl[874]? = some (.code ⟨"GrownTownLaw", "part", "(II)I"⟩ method_2_code 2 (some .int)) from rfl)
set_option maxRecDepth 100000 in
theorem z_c168 : zcw 168 ∈ lw_tbl := List.mem_of_getElem? (i := 874) (show lw_tbl[874]? = some (.code ⟨"GrownTownLaw", "part", "(II)I"⟩ method_2_code 2 (some .int)) from rfl)
set_option maxRecDepth 100000 in
theorem z_c169 : zcw 169 ∈ lw_tbl := List.mem_of_getElem? (i := 874) (show lw_tbl[874]? = some (.code ⟨"GrownTownLaw", "part", "(II)I"⟩ method_2_code 2 (some .int)) from rfl)
set_option maxRecDepth 100000 in
theorem z_c170 : zcw 170 ∈ lw_tbl := List.mem_of_getElem? (i := 874) (show lw_tbl[874]? = some (.code ⟨"GrownTownLaw", "part", "(II)I"⟩ method_2_code 2 (some .int)) from rfl)
set_option maxRecDepth 100000 in
theorem z_c171 : zcw 171 ∈ lw_tbl := List.mem_of_getElem? (i := 874) (show lw_tbl[874]? = some (.code ⟨"GrownTownLaw", "part", "(II)I"⟩ method_2_code 2 (some .int)) from rfl)
set_option maxRecDepth 100000 in
theorem z_c172 : zcw 172 ∈ lw_tbl := List.mem_of_getElem? (i := 874) (show lw_tbl[874]? = some (.code ⟨"GrownTownLaw", "part", "(II)I"⟩ method_2_code 2 (some .int)) from rfl)
set_option maxRecDepth 100000 in
theorem z_c173 : zcw 173 ∈ lw_tbl := List.mem_of_getElem? (i := 874) (show lw_tbl[874]? = some (.code ⟨"GrownTownLaw", "part", "(II)I"⟩ method_2_code 2 (some .int)) from rfl)
set_option maxRecDepth 100000 in
theorem z_c174 : zcw 174 ∈ lw_tbl := List.mem_of_getElem? (i := 874) (show lw_tbl[874]? = some (.code ⟨"GrownTownLaw", "part", "(II)I"⟩ method_2_code 2 (some .int)) from rfl)
set_option maxRecDepth 100000 in
theorem z_c175 : zcw 175 ∈ lw_tbl := List.mem_of_getElem? (i := 874) (show lw_tbl[874]? = some (.code ⟨"GrownTownLaw", "part", "(II)I"⟩ method_2_code 2 (some .int)) from rfl)
set_option maxRecDepth 100000 in
theorem z_c176 : zcw 176 ∈ lw_tbl := List.mem_of_getElem? (i := 874) (show lw_tbl[874]? = some (.code ⟨"GrownTownLaw", "part", "(II)I"⟩ method_2_code 2 (some .int)) from rfl)
set_option maxRecDepth 100000 in
theorem z_c177 : zcw 177 ∈ lw_tbl := List.mem_of_getElem? (i := 874) (show lw_tbl[874]? = some (.code ⟨"GrownTownLaw", "part", "(II)I"⟩ method_2_code 2 (some .int)) from rfl)
set_option maxRecDepth 100000 in
theorem z_c178 : zcw 178 ∈ lw_tbl := List.mem_of_getElem? (i := 64) (show lw_tbl[64]? = some (.code ⟨"GrownTown", "<init>", "()V"⟩ prog_1_method_1_code 1 (none)) from rfl)
set_option maxRecDepth 100000 in
theorem z_c179 : zcw 179 ∈ lw_tbl := List.mem_of_getElem? (i := 86) (show lw_tbl[86]? = some (.code ⟨"GrownTown", "within", "(III)Z"⟩ prog_1_method_39_code 3 (some .boolean)) from rfl)
set_option maxRecDepth 100000 in
theorem z_c180 : zcw 180 ∈ lw_tbl := List.mem_of_getElem? (i := 114) (show lw_tbl[114]? = some (.code ⟨"GrownTown", "bit", "(I)J"⟩ prog_1_method_40_code 1 (some .long)) from rfl)
set_option maxRecDepth 100000 in
theorem z_c181 : zcw 181 ∈ lw_tbl := List.mem_of_getElem? (i := 1123) (show lw_tbl[1123]? = some (.code ⟨"GrownTown", "board", "(II)I"⟩ prog_1_method_2_code 3 (some .int)) from rfl)
set_option maxRecDepth 100000 in
theorem z_c182 : zcw 182 ∈ lw_tbl := List.mem_of_getElem? (i := 827) (show lw_tbl[827]? = some (.code ⟨"GrownTown", "ground", "(II)I"⟩ prog_1_method_3_code 3 (some .int)) from rfl)
set_option maxRecDepth 100000 in
theorem z_c183 : zcw 183 ∈ lw_tbl := List.mem_of_getElem? (i := 1146) (show lw_tbl[1146]? = some (.code ⟨"GrownTown", "height", "(II)I"⟩ prog_1_method_4_code 3 (some .int)) from rfl)
set_option maxRecDepth 100000 in
theorem z_c184 : zcw 184 ∈ lw_tbl := List.mem_of_getElem? (i := 517) (show lw_tbl[517]? = some (.code ⟨"GrownTown", "use", "(II)I"⟩ prog_1_method_5_code 3 (some .int)) from rfl)
set_option maxRecDepth 100000 in
theorem z_c185 : zcw 185 ∈ lw_tbl := List.mem_of_getElem? (i := 578) (show lw_tbl[578]? = some (.code ⟨"GrownTown", "plot", "(II)I"⟩ prog_1_method_6_code 3 (some .int)) from rfl)
set_option maxRecDepth 100000 in
theorem z_c186 : zcw 186 ∈ lw_tbl := List.mem_of_getElem? (i := 909) (show lw_tbl[909]? = some (.code ⟨"GrownTown", "feed", "(J)I"⟩ prog_1_method_7_code 3 (some .int)) from rfl)
set_option maxRecDepth 100000 in
theorem z_c187 : zcw 187 ∈ lw_tbl := List.mem_of_getElem? (i := 921) (show lw_tbl[921]? = some (.code ⟨"GrownTown", "end", "(I)I"⟩ prog_1_method_8_code 3 (some .int)) from rfl)
set_option maxRecDepth 100000 in
theorem z_c188 : zcw 188 ∈ lw_tbl := List.mem_of_getElem? (i := 925) (show lw_tbl[925]? = some (.code ⟨"GrownTown", "laws", "()I"⟩ prog_1_method_9_code 2 (some .int)) from rfl)
set_option maxRecDepth 100000 in
theorem z_c189 : zcw 189 ∈ lw_tbl := List.mem_of_getElem? (i := 592) (show lw_tbl[592]? = some (.code ⟨"GrownTown", "fault", "()I"⟩ prog_1_method_10_code 1 (some .int)) from rfl)
set_option maxRecDepth 100000 in
theorem z_c190 : zcw 190 ∈ lw_tbl := List.mem_of_getElem? (i := 874) (show lw_tbl[874]? = some (.code ⟨"GrownTownLaw", "part", "(II)I"⟩ method_2_code 2 (some .int)) from rfl)
set_option maxRecDepth 100000 in
theorem z_c191 : zcw 191 ∈ lw_tbl := List.mem_of_getElem? (i := 874) (show lw_tbl[874]? = some (.code ⟨"GrownTownLaw", "part", "(II)I"⟩ method_2_code 2 (some .int)) from rfl)
set_option maxRecDepth 100000 in
theorem z_c192 : zcw 192 ∈ lw_tbl := List.mem_of_getElem? (i := 874) (show lw_tbl[874]? = some (.code ⟨"GrownTownLaw", "part", "(II)I"⟩ method_2_code 2 (some .int)) from rfl)
set_option maxRecDepth 100000 in
theorem z_c193 : zcw 193 ∈ lw_tbl := List.mem_of_getElem? (i := 874) (show lw_tbl[874]? = some (.code ⟨"GrownTownLaw", "part", "(II)I"⟩ method_2_code 2 (some .int)) from rfl)
set_option maxRecDepth 100000 in
theorem z_c194 : zcw 194 ∈ lw_tbl := List.mem_of_getElem? (i := 874) (show lw_tbl[874]? = some (.code ⟨"GrownTownLaw", "part", "(II)I"⟩ method_2_code 2 (some .int)) from rfl)
set_option maxRecDepth 100000 in
theorem z_c195 : zcw 195 ∈ lw_tbl := List.mem_of_getElem? (i := 874) (show lw_tbl[874]? = some (.code ⟨"GrownTownLaw", "part", "(II)I"⟩ method_2_code 2 (some .int)) from rfl)
set_option maxRecDepth 100000 in
theorem z_c196 : zcw 196 ∈ lw_tbl := List.mem_of_getElem? (i := 874) (show lw_tbl[874]? = some (.code ⟨"GrownTownLaw", "part", "(II)I"⟩ method_2_code 2 (some .int)) from rfl)
set_option maxRecDepth 100000 in
theorem z_c197 : zcw 197 ∈ lw_tbl := List.mem_of_getElem? (i := 596) (show lw_tbl[596]? = some (.code ⟨"GrownTown", "year", "()I"⟩ prog_1_method_18_code 1 (some .int)) from rfl)
set_option maxRecDepth 100000 in
theorem z_c198 : zcw 198 ∈ lw_tbl := List.mem_of_getElem? (i := 738) (show lw_tbl[738]? = some (.code ⟨"GrownTown", "was", "(II)I"⟩ prog_1_method_19_code 3 (some .int)) from rfl)
set_option maxRecDepth 100000 in
theorem z_c199 : zcw 199 ∈ lw_tbl := List.mem_of_getElem? (i := 874) (show lw_tbl[874]? = some (.code ⟨"GrownTownLaw", "part", "(II)I"⟩ method_2_code 2 (some .int)) from rfl)
set_option maxRecDepth 100000 in
theorem z_c200 : zcw 200 ∈ lw_tbl := List.mem_of_getElem? (i := 874) (show lw_tbl[874]? = some (.code ⟨"GrownTownLaw", "part", "(II)I"⟩ method_2_code 2 (some .int)) from rfl)
set_option maxRecDepth 100000 in
theorem z_c201 : zcw 201 ∈ lw_tbl := List.mem_of_getElem? (i := 874) (show lw_tbl[874]? = some (.code ⟨"GrownTownLaw", "part", "(II)I"⟩ method_2_code 2 (some .int)) from rfl)
set_option maxRecDepth 100000 in
theorem z_c202 : zcw 202 ∈ lw_tbl := List.mem_of_getElem? (i := 874) (show lw_tbl[874]? = some (.code ⟨"GrownTownLaw", "part", "(II)I"⟩ method_2_code 2 (some .int)) from rfl)
set_option maxRecDepth 100000 in
theorem z_c203 : zcw 203 ∈ lw_tbl := List.mem_of_getElem? (i := 874) (show lw_tbl[874]? = some (.code ⟨"GrownTownLaw", "part", "(II)I"⟩ method_2_code 2 (some .int)) from rfl)
set_option maxRecDepth 100000 in
theorem z_c204 : zcw 204 ∈ lw_tbl := List.mem_of_getElem? (i := 874) (show lw_tbl[874]? = some (.code ⟨"GrownTownLaw", "part", "(II)I"⟩ method_2_code 2 (some .int)) from rfl)
set_option maxRecDepth 100000 in
theorem z_c205 : zcw 205 ∈ lw_tbl := List.mem_of_getElem? (i := 874) (show lw_tbl[874]? = some (.code ⟨"GrownTownLaw", "part", "(II)I"⟩ method_2_code 2 (some .int)) from rfl)
set_option maxRecDepth 100000 in
theorem z_c206 : zcw 206 ∈ lw_tbl := List.mem_of_getElem? (i := 874) (show lw_tbl[874]? = some (.code ⟨"GrownTownLaw", "part", "(II)I"⟩ method_2_code 2 (some .int)) from rfl)
set_option maxRecDepth 100000 in
theorem z_c207 : zcw 207 ∈ lw_tbl := List.mem_of_getElem? (i := 874) (show lw_tbl[874]? = some (.code ⟨"GrownTownLaw", "part", "(II)I"⟩ method_2_code 2 (some .int)) from rfl)
set_option maxRecDepth 100000 in
theorem z_c208 : zcw 208 ∈ lw_tbl := List.mem_of_getElem? (i := 874) (show lw_tbl[874]? = some (.code ⟨"GrownTownLaw", "part", "(II)I"⟩ method_2_code 2 (some .int)) from rfl)
set_option maxRecDepth 100000 in
theorem z_c209 : zcw 209 ∈ lw_tbl := List.mem_of_getElem? (i := 874) (show lw_tbl[874]? = some (.code ⟨"GrownTownLaw", "part", "(II)I"⟩ method_2_code 2 (some .int)) from rfl)
set_option maxRecDepth 100000 in
theorem z_c210 : zcw 210 ∈ lw_tbl := List.mem_of_getElem? (i := 874) (show lw_tbl[874]? = some (.code ⟨"GrownTownLaw", "part", "(II)I"⟩ method_2_code 2 (some .int)) from rfl)
set_option maxRecDepth 100000 in
theorem z_c211 : zcw 211 ∈ lw_tbl := List.mem_of_getElem? (i := 874) (show lw_tbl[874]? = some (.code ⟨"GrownTownLaw", "part", "(II)I"⟩ method_2_code 2 (some .int)) from rfl)
set_option maxRecDepth 100000 in
theorem z_c212 : zcw 212 ∈ lw_tbl := List.mem_of_getElem? (i := 752) (show lw_tbl[752]? = some (.code ⟨"GrownTown", "plan", "(III)I"⟩ prog_1_method_30_code 4 (some .int)) from rfl)
set_option maxRecDepth 100000 in
theorem z_c213 : zcw 213 ∈ lw_tbl := List.mem_of_getElem? (i := 762) (show lw_tbl[762]? = some (.code ⟨"GrownTown", "chosen", "(II)I"⟩ prog_1_method_31_code 3 (some .int)) from rfl)
set_option maxRecDepth 100000 in
theorem z_c214 : zcw 214 ∈ lw_tbl := List.mem_of_getElem? (i := 821) (show lw_tbl[821]? = some (.code ⟨"GrownTown", "build", "(I)I"⟩ prog_1_method_32_code 4 (some .int)) from rfl)
set_option maxRecDepth 100000 in
theorem z_c215 : zcw 215 ∈ lw_tbl := List.mem_of_getElem? (i := 837) (show lw_tbl[837]? = some (.code ⟨"GrownTown", "note", "(III)I"⟩ prog_1_method_33_code 4 (some .int)) from rfl)
set_option maxRecDepth 100000 in
theorem z_c216 : zcw 216 ∈ lw_tbl := List.mem_of_getElem? (i := 846) (show lw_tbl[846]? = some (.code ⟨"GrownTown", "known", "(III)I"⟩ prog_1_method_34_code 5 (some .int)) from rfl)
set_option maxRecDepth 100000 in
theorem z_c217 : zcw 217 ∈ lw_tbl := List.mem_of_getElem? (i := 874) (show lw_tbl[874]? = some (.code ⟨"GrownTownLaw", "part", "(II)I"⟩ method_2_code 2 (some .int)) from rfl)
set_option maxRecDepth 100000 in
theorem z_c218 : zcw 218 ∈ lw_tbl := List.mem_of_getElem? (i := 874) (show lw_tbl[874]? = some (.code ⟨"GrownTownLaw", "part", "(II)I"⟩ method_2_code 2 (some .int)) from rfl)
set_option maxRecDepth 100000 in
theorem z_c219 : zcw 219 ∈ lw_tbl := List.mem_of_getElem? (i := 874) (show lw_tbl[874]? = some (.code ⟨"GrownTownLaw", "part", "(II)I"⟩ method_2_code 2 (some .int)) from rfl)
set_option maxRecDepth 100000 in
theorem z_c220 : zcw 220 ∈ lw_tbl := List.mem_of_getElem? (i := 874) (show lw_tbl[874]? = some (.code ⟨"GrownTownLaw", "part", "(II)I"⟩ method_2_code 2 (some .int)) from rfl)
set_option maxRecDepth 100000 in
theorem z_c221 : zcw 221 ∈ lw_tbl := List.mem_of_getElem? (i := 874) (show lw_tbl[874]? = some (.code ⟨"GrownTownLaw", "part", "(II)I"⟩ method_2_code 2 (some .int)) from rfl)
set_option maxRecDepth 100000 in
theorem z_c222 : zcw 222 ∈ lw_tbl := List.mem_of_getElem? (i := 874) (show lw_tbl[874]? = some (.code ⟨"GrownTownLaw", "part", "(II)I"⟩ method_2_code 2 (some .int)) from rfl)
set_option maxRecDepth 100000 in
theorem z_c223 : zcw 223 ∈ lw_tbl := List.mem_of_getElem? (i := 874) (show lw_tbl[874]? = some (.code ⟨"GrownTownLaw", "part", "(II)I"⟩ method_2_code 2 (some .int)) from rfl)
set_option maxRecDepth 100000 in
theorem z_c224 : zcw 224 ∈ lw_tbl := List.mem_of_getElem? (i := 874) (show lw_tbl[874]? = some (.code ⟨"GrownTownLaw", "part", "(II)I"⟩ method_2_code 2 (some .int)) from rfl)
set_option maxRecDepth 100000 in
theorem z_c225 : zcw 225 ∈ lw_tbl := List.mem_of_getElem? (i := 874) (show lw_tbl[874]? = some (.code ⟨"GrownTownLaw", "part", "(II)I"⟩ method_2_code 2 (some .int)) from rfl)
set_option maxRecDepth 100000 in
theorem z_c226 : zcw 226 ∈ lw_tbl := List.mem_of_getElem? (i := 859) (show lw_tbl[859]? = some (.code ⟨"GrownTown", "count", "(I)I"⟩ prog_1_method_38_code 2 (some .int)) from rfl)
set_option maxRecDepth 100000 in
theorem z_c227 : zcw 227 ∈ lw_tbl := List.mem_of_getElem? (i := 874) (show lw_tbl[874]? = some (.code ⟨"GrownTownLaw", "part", "(II)I"⟩ method_2_code 2 (some .int)) from rfl)
set_option maxRecDepth 100000 in
theorem z_c228 : zcw 228 ∈ lw_tbl := List.mem_of_getElem? (i := 874) (show lw_tbl[874]? = some (.code ⟨"GrownTownLaw", "part", "(II)I"⟩ method_2_code 2 (some .int)) from rfl)
set_option maxRecDepth 100000 in
theorem z_c229 : zcw 229 ∈ lw_tbl := List.mem_of_getElem? (i := 874) (show lw_tbl[874]? = some (.code ⟨"GrownTownLaw", "part", "(II)I"⟩ method_2_code 2 (some .int)) from rfl)
set_option maxRecDepth 100000 in
theorem z_c230 : zcw 230 ∈ lw_tbl := List.mem_of_getElem? (i := 874) (show lw_tbl[874]? = some (.code ⟨"GrownTownLaw", "part", "(II)I"⟩ method_2_code 2 (some .int)) from rfl)
set_option maxRecDepth 100000 in
theorem z_c231 : zcw 231 ∈ lw_tbl := List.mem_of_getElem? (i := 874) (show lw_tbl[874]? = some (.code ⟨"GrownTownLaw", "part", "(II)I"⟩ method_2_code 2 (some .int)) from rfl)
set_option maxRecDepth 100000 in
theorem z_c232 : zcw 232 ∈ lw_tbl := List.mem_of_getElem? (i := 874) (show lw_tbl[874]? = some (.code ⟨"GrownTownLaw", "part", "(II)I"⟩ method_2_code 2 (some .int)) from rfl)
set_option maxRecDepth 100000 in
theorem z_c233 : zcw 233 ∈ lw_tbl := List.mem_of_getElem? (i := 874) (show lw_tbl[874]? = some (.code ⟨"GrownTownLaw", "part", "(II)I"⟩ method_2_code 2 (some .int)) from rfl)
set_option maxRecDepth 100000 in
theorem z_c234 : zcw 234 ∈ lw_tbl := List.mem_of_getElem? (i := 874) (show lw_tbl[874]? = some (.code ⟨"GrownTownLaw", "part", "(II)I"⟩ method_2_code 2 (some .int)) from rfl)
set_option maxRecDepth 100000 in
theorem z_c235 : zcw 235 ∈ lw_tbl := List.mem_of_getElem? (i := 874) (show lw_tbl[874]? = some (.code ⟨"GrownTownLaw", "part", "(II)I"⟩ method_2_code 2 (some .int)) from rfl)
set_option maxRecDepth 100000 in
theorem z_c236 : zcw 236 ∈ lw_tbl := List.mem_of_getElem? (i := 874) (show lw_tbl[874]? = some (.code ⟨"GrownTownLaw", "part", "(II)I"⟩ method_2_code 2 (some .int)) from rfl)
set_option maxRecDepth 100000 in
theorem z_c237 : zcw 237 ∈ lw_tbl := List.mem_of_getElem? (i := 874) (show lw_tbl[874]? = some (.code ⟨"GrownTownLaw", "part", "(II)I"⟩ method_2_code 2 (some .int)) from rfl)
set_option maxRecDepth 100000 in
theorem z_c238 : zcw 238 ∈ lw_tbl := List.mem_of_getElem? (i := 874) (show lw_tbl[874]? = some (.code ⟨"GrownTownLaw", "part", "(II)I"⟩ method_2_code 2 (some .int)) from rfl)
set_option maxRecDepth 100000 in
theorem z_c239 : zcw 239 ∈ lw_tbl := List.mem_of_getElem? (i := 874) (show lw_tbl[874]? = some (.code ⟨"GrownTownLaw", "part", "(II)I"⟩ method_2_code 2 (some .int)) from rfl)
set_option maxRecDepth 100000 in
theorem z_c240 : zcw 240 ∈ lw_tbl := List.mem_of_getElem? (i := 874) (show lw_tbl[874]? = some (.code ⟨"GrownTownLaw", "part", "(II)I"⟩ method_2_code 2 (some .int)) from rfl)
set_option maxRecDepth 100000 in
theorem z_c241 : zcw 241 ∈ lw_tbl := List.mem_of_getElem? (i := 874) (show lw_tbl[874]? = some (.code ⟨"GrownTownLaw", "part", "(II)I"⟩ method_2_code 2 (some .int)) from rfl)
set_option maxRecDepth 100000 in
theorem z_c242 : zcw 242 ∈ lw_tbl := List.mem_of_getElem? (i := 874) (show lw_tbl[874]? = some (.code ⟨"GrownTownLaw", "part", "(II)I"⟩ method_2_code 2 (some .int)) from rfl)
set_option maxRecDepth 100000 in
theorem z_c243 : zcw 243 ∈ lw_tbl := List.mem_of_getElem? (i := 874) (show lw_tbl[874]? = some (.code ⟨"GrownTownLaw", "part", "(II)I"⟩ method_2_code 2 (some .int)) from rfl)
set_option maxRecDepth 100000 in
theorem z_c244 : zcw 244 ∈ lw_tbl := List.mem_of_getElem? (i := 874) (show lw_tbl[874]? = some (.code ⟨"GrownTownLaw", "part", "(II)I"⟩ method_2_code 2 (some .int)) from rfl)
set_option maxRecDepth 100000 in
theorem z_c245 : zcw 245 ∈ lw_tbl := List.mem_of_getElem? (i := 874) (show lw_tbl[874]? = some (.code ⟨"GrownTownLaw", "part", "(II)I"⟩ method_2_code 2 (some .int)) from rfl)
set_option maxRecDepth 100000 in
theorem z_c246 : zcw 246 ∈ lw_tbl := List.mem_of_getElem? (i := 874) (show lw_tbl[874]? = some (.code ⟨"GrownTownLaw", "part", "(II)I"⟩ method_2_code 2 (some .int)) from rfl)
set_option maxRecDepth 100000 in
theorem z_c247 : zcw 247 ∈ lw_tbl := List.mem_of_getElem? (i := 874) (show lw_tbl[874]? = some (.code ⟨"GrownTownLaw", "part", "(II)I"⟩ method_2_code 2 (some .int)) from rfl)
set_option maxRecDepth 100000 in
theorem z_c248 : zcw 248 ∈ lw_tbl := List.mem_of_getElem? (i := 874) (show lw_tbl[874]? = some (.code ⟨"GrownTownLaw", "part", "(II)I"⟩ method_2_code 2 (some .int)) from rfl)
set_option maxRecDepth 100000 in
theorem z_c249 : zcw 249 ∈ lw_tbl := List.mem_of_getElem? (i := 874) (show lw_tbl[874]? = some (.code ⟨"GrownTownLaw", "part", "(II)I"⟩ method_2_code 2 (some .int)) from rfl)
set_option maxRecDepth 100000 in
theorem z_c250 : zcw 250 ∈ lw_tbl := List.mem_of_getElem? (i := 874) (show lw_tbl[874]? = some (.code ⟨"GrownTownLaw", "part", "(II)I"⟩ method_2_code 2 (some .int)) from rfl)
set_option maxRecDepth 100000 in
theorem z_c251 : zcw 251 ∈ lw_tbl := List.mem_of_getElem? (i := 874) (show lw_tbl[874]? = some (.code ⟨"GrownTownLaw", "part", "(II)I"⟩ method_2_code 2 (some .int)) from rfl)
set_option maxRecDepth 100000 in
theorem z_c252 : zcw 252 ∈ lw_tbl := List.mem_of_getElem? (i := 874) (show lw_tbl[874]? = some (.code ⟨"GrownTownLaw", "part", "(II)I"⟩ method_2_code 2 (some .int)) from rfl)
set_option maxRecDepth 100000 in
theorem z_c253 : zcw 253 ∈ lw_tbl := List.mem_of_getElem? (i := 874) (show lw_tbl[874]? = some (.code ⟨"GrownTownLaw", "part", "(II)I"⟩ method_2_code 2 (some .int)) from rfl)
set_option maxRecDepth 100000 in
theorem z_c254 : zcw 254 ∈ lw_tbl := List.mem_of_getElem? (i := 874) (show lw_tbl[874]? = some (.code ⟨"GrownTownLaw", "part", "(II)I"⟩ method_2_code 2 (some .int)) from rfl)
set_option maxRecDepth 100000 in
theorem z_c255 : zcw 255 ∈ lw_tbl := List.mem_of_getElem? (i := 874) (show lw_tbl[874]? = some (.code ⟨"GrownTownLaw", "part", "(II)I"⟩ method_2_code 2 (some .int)) from rfl)
set_option maxRecDepth 100000 in
theorem z_c256 : zcw 256 ∈ lw_tbl := List.mem_of_getElem? (i := 874) (show lw_tbl[874]? = some (.code ⟨"GrownTownLaw", "part", "(II)I"⟩ method_2_code 2 (some .int)) from rfl)
set_option maxRecDepth 100000 in
theorem z_c257 : zcw 257 ∈ lw_tbl := List.mem_of_getElem? (i := 874) (show lw_tbl[874]? = some (.code ⟨"GrownTownLaw", "part", "(II)I"⟩ method_2_code 2 (some .int)) from rfl)
set_option maxRecDepth 100000 in
theorem z_c258 : zcw 258 ∈ lw_tbl := List.mem_of_getElem? (i := 874) (show lw_tbl[874]? = some (.code ⟨"GrownTownLaw", "part", "(II)I"⟩ method_2_code 2 (some .int)) from rfl)
set_option maxRecDepth 100000 in
theorem z_c259 : zcw 259 ∈ lw_tbl := List.mem_of_getElem? (i := 874) (show lw_tbl[874]? = some (.code ⟨"GrownTownLaw", "part", "(II)I"⟩ method_2_code 2 (some .int)) from rfl)
set_option maxRecDepth 100000 in
theorem z_c260 : zcw 260 ∈ lw_tbl := List.mem_of_getElem? (i := 874) (show lw_tbl[874]? = some (.code ⟨"GrownTownLaw", "part", "(II)I"⟩ method_2_code 2 (some .int)) from rfl)
set_option maxRecDepth 100000 in
theorem z_c261 : zcw 261 ∈ lw_tbl := List.mem_of_getElem? (i := 874) (show lw_tbl[874]? = some (.code ⟨"GrownTownLaw", "part", "(II)I"⟩ method_2_code 2 (some .int)) from rfl)
set_option maxRecDepth 100000 in
theorem z_c262 : zcw 262 ∈ lw_tbl := List.mem_of_getElem? (i := 874) (show lw_tbl[874]? = some (.code ⟨"GrownTownLaw", "part", "(II)I"⟩ method_2_code 2 (some .int)) from rfl)
set_option maxRecDepth 100000 in
theorem z_c263 : zcw 263 ∈ lw_tbl := List.mem_of_getElem? (i := 874) (show lw_tbl[874]? = some (.code ⟨"GrownTownLaw", "part", "(II)I"⟩ method_2_code 2 (some .int)) from rfl)
set_option maxRecDepth 100000 in
theorem z_c264 : zcw 264 ∈ lw_tbl := List.mem_of_getElem? (i := 874) (show lw_tbl[874]? = some (.code ⟨"GrownTownLaw", "part", "(II)I"⟩ method_2_code 2 (some .int)) from rfl)
set_option maxRecDepth 100000 in
theorem z_c265 : zcw 265 ∈ lw_tbl := List.mem_of_getElem? (i := 874) (show lw_tbl[874]? = some (.code ⟨"GrownTownLaw", "part", "(II)I"⟩ method_2_code 2 (some .int)) from rfl)
set_option maxRecDepth 100000 in
theorem z_c266 : zcw 266 ∈ lw_tbl := List.mem_of_getElem? (i := 874) (show lw_tbl[874]? = some (.code ⟨"GrownTownLaw", "part", "(II)I"⟩ method_2_code 2 (some .int)) from rfl)
set_option maxRecDepth 100000 in
theorem z_c267 : zcw 267 ∈ lw_tbl := List.mem_of_getElem? (i := 874) (show lw_tbl[874]? = some (.code ⟨"GrownTownLaw", "part", "(II)I"⟩ method_2_code 2 (some .int)) from rfl)
set_option maxRecDepth 100000 in
theorem z_c268 : zcw 268 ∈ lw_tbl := List.mem_of_getElem? (i := 874) (show lw_tbl[874]? = some (.code ⟨"GrownTownLaw", "part", "(II)I"⟩ method_2_code 2 (some .int)) from rfl)
set_option maxRecDepth 100000 in
theorem z_c269 : zcw 269 ∈ lw_tbl := List.mem_of_getElem? (i := 874) (show lw_tbl[874]? = some (.code ⟨"GrownTownLaw", "part", "(II)I"⟩ method_2_code 2 (some .int)) from rfl)
set_option maxRecDepth 100000 in
theorem z_c270 : zcw 270 ∈ lw_tbl := List.mem_of_getElem? (i := 874) (show lw_tbl[874]? = some (.code ⟨"GrownTownLaw", "part", "(II)I"⟩ method_2_code 2 (some .int)) from rfl)
set_option maxRecDepth 100000 in
theorem z_c271 : zcw 271 ∈ lw_tbl := List.mem_of_getElem? (i := 874) (show lw_tbl[874]? = some (.code ⟨"GrownTownLaw", "part", "(II)I"⟩ method_2_code 2 (some .int)) from rfl)
set_option maxRecDepth 100000 in
theorem z_c272 : zcw 272 ∈ lw_tbl := List.mem_of_getElem? (i := 874) (show lw_tbl[874]? = some (.code ⟨"GrownTownLaw", "part", "(II)I"⟩ method_2_code 2 (some .int)) from rfl)
set_option maxRecDepth 100000 in
theorem z_c273 : zcw 273 ∈ lw_tbl := List.mem_of_getElem? (i := 874) (show lw_tbl[874]? = some (.code ⟨"GrownTownLaw", "part", "(II)I"⟩ method_2_code 2 (some .int)) from rfl)
set_option maxRecDepth 100000 in
theorem z_c274 : zcw 274 ∈ lw_tbl := List.mem_of_getElem? (i := 874) (show lw_tbl[874]? = some (.code ⟨"GrownTownLaw", "part", "(II)I"⟩ method_2_code 2 (some .int)) from rfl)
set_option maxRecDepth 100000 in
theorem z_c275 : zcw 275 ∈ lw_tbl := List.mem_of_getElem? (i := 874) (show lw_tbl[874]? = some (.code ⟨"GrownTownLaw", "part", "(II)I"⟩ method_2_code 2 (some .int)) from rfl)
set_option maxRecDepth 100000 in
theorem z_c276 : zcw 276 ∈ lw_tbl := List.mem_of_getElem? (i := 874) (show lw_tbl[874]? = some (.code ⟨"GrownTownLaw", "part", "(II)I"⟩ method_2_code 2 (some .int)) from rfl)
set_option maxRecDepth 100000 in
theorem z_c277 : zcw 277 ∈ lw_tbl := List.mem_of_getElem? (i := 874) (show lw_tbl[874]? = some (.code ⟨"GrownTownLaw", "part", "(II)I"⟩ method_2_code 2 (some .int)) from rfl)
set_option maxRecDepth 100000 in
theorem z_c278 : zcw 278 ∈ lw_tbl := List.mem_of_getElem? (i := 874) (show lw_tbl[874]? = some (.code ⟨"GrownTownLaw", "part", "(II)I"⟩ method_2_code 2 (some .int)) from rfl)
set_option maxRecDepth 100000 in
theorem z_c279 : zcw 279 ∈ lw_tbl := List.mem_of_getElem? (i := 874) (show lw_tbl[874]? = some (.code ⟨"GrownTownLaw", "part", "(II)I"⟩ method_2_code 2 (some .int)) from rfl)
set_option maxRecDepth 100000 in
theorem z_c280 : zcw 280 ∈ lw_tbl := List.mem_of_getElem? (i := 874) (show lw_tbl[874]? = some (.code ⟨"GrownTownLaw", "part", "(II)I"⟩ method_2_code 2 (some .int)) from rfl)
set_option maxRecDepth 100000 in
theorem z_c281 : zcw 281 ∈ lw_tbl := List.mem_of_getElem? (i := 874) (show lw_tbl[874]? = some (.code ⟨"GrownTownLaw", "part", "(II)I"⟩ method_2_code 2 (some .int)) from rfl)
set_option maxRecDepth 100000 in
theorem z_c282 : zcw 282 ∈ lw_tbl := List.mem_of_getElem? (i := 874) (show lw_tbl[874]? = some (.code ⟨"GrownTownLaw", "part", "(II)I"⟩ method_2_code 2 (some .int)) from rfl)
set_option maxRecDepth 100000 in
theorem z_c283 : zcw 283 ∈ lw_tbl := List.mem_of_getElem? (i := 874) (show lw_tbl[874]? = some (.code ⟨"GrownTownLaw", "part", "(II)I"⟩ method_2_code 2 (some .int)) from rfl)
set_option maxRecDepth 100000 in
theorem z_c284 : zcw 284 ∈ lw_tbl := List.mem_of_getElem? (i := 874) (show lw_tbl[874]? = some (.code ⟨"GrownTownLaw", "part", "(II)I"⟩ method_2_code 2 (some .int)) from rfl)
set_option maxRecDepth 100000 in
theorem z_c285 : zcw 285 ∈ lw_tbl := List.mem_of_getElem? (i := 874) (show lw_tbl[874]? = some (.code ⟨"GrownTownLaw", "part", "(II)I"⟩ method_2_code 2 (some .int)) from rfl)
set_option maxRecDepth 100000 in
theorem z_c286 : zcw 286 ∈ lw_tbl := List.mem_of_getElem? (i := 874) (show lw_tbl[874]? = some (.code ⟨"GrownTownLaw", "part", "(II)I"⟩ method_2_code 2 (some .int)) from rfl)
set_option maxRecDepth 100000 in
theorem z_c287 : zcw 287 ∈ lw_tbl := List.mem_of_getElem? (i := 874) (show lw_tbl[874]? = some (.code ⟨"GrownTownLaw", "part", "(II)I"⟩ method_2_code 2 (some .int)) from rfl)
set_option maxRecDepth 100000 in
theorem z_c288 : zcw 288 ∈ lw_tbl := List.mem_of_getElem? (i := 874) (show lw_tbl[874]? = some (.code ⟨"GrownTownLaw", "part", "(II)I"⟩ method_2_code 2 (some .int)) from rfl)
set_option maxRecDepth 100000 in
theorem z_c289 : zcw 289 ∈ lw_tbl := List.mem_of_getElem? (i := 874) (show lw_tbl[874]? = some (.code ⟨"GrownTownLaw", "part", "(II)I"⟩ method_2_code 2 (some .int)) from rfl)
set_option maxRecDepth 100000 in
theorem z_c290 : zcw 290 ∈ lw_tbl := List.mem_of_getElem? (i := 874) (show lw_tbl[874]? = some (.code ⟨"GrownTownLaw", "part", "(II)I"⟩ method_2_code 2 (some .int)) from rfl)
set_option maxRecDepth 100000 in
theorem z_c291 : zcw 291 ∈ lw_tbl := List.mem_of_getElem? (i := 874) (show lw_tbl[874]? = some (.code ⟨"GrownTownLaw", "part", "(II)I"⟩ method_2_code 2 (some .int)) from rfl)
set_option maxRecDepth 100000 in
theorem z_c292 : zcw 292 ∈ lw_tbl := List.mem_of_getElem? (i := 874) (show lw_tbl[874]? = some (.code ⟨"GrownTownLaw", "part", "(II)I"⟩ method_2_code 2 (some .int)) from rfl)
set_option maxRecDepth 100000 in
theorem z_c293 : zcw 293 ∈ lw_tbl := List.mem_of_getElem? (i := 874) (show lw_tbl[874]? = some (.code ⟨"GrownTownLaw", "part", "(II)I"⟩ method_2_code 2 (some .int)) from rfl)
set_option maxRecDepth 100000 in
theorem z_c294 : zcw 294 ∈ lw_tbl := List.mem_of_getElem? (i := 874) (show lw_tbl[874]? = some (.code ⟨"GrownTownLaw", "part", "(II)I"⟩ method_2_code 2 (some .int)) from rfl)
set_option maxRecDepth 100000 in
theorem z_c295 : zcw 295 ∈ lw_tbl := List.mem_of_getElem? (i := 874) (show lw_tbl[874]? = some (.code ⟨"GrownTownLaw", "part", "(II)I"⟩ method_2_code 2 (some .int)) from rfl)
set_option maxRecDepth 100000 in
theorem z_c296 : zcw 296 ∈ lw_tbl := List.mem_of_getElem? (i := 874) (show lw_tbl[874]? = some (.code ⟨"GrownTownLaw", "part", "(II)I"⟩ method_2_code 2 (some .int)) from rfl)
set_option maxRecDepth 100000 in
theorem z_c297 : zcw 297 ∈ lw_tbl := List.mem_of_getElem? (i := 874) (show lw_tbl[874]? = some (.code ⟨"GrownTownLaw", "part", "(II)I"⟩ method_2_code 2 (some .int)) from rfl)
set_option maxRecDepth 100000 in
theorem z_c298 : zcw 298 ∈ lw_tbl := List.mem_of_getElem? (i := 874) (show lw_tbl[874]? = some (.code ⟨"GrownTownLaw", "part", "(II)I"⟩ method_2_code 2 (some .int)) from rfl)
set_option maxRecDepth 100000 in
theorem z_c299 : zcw 299 ∈ lw_tbl := List.mem_of_getElem? (i := 874) (show lw_tbl[874]? = some (.code ⟨"GrownTownLaw", "part", "(II)I"⟩ method_2_code 2 (some .int)) from rfl)
set_option maxRecDepth 100000 in
theorem z_c300 : zcw 300 ∈ lw_tbl := List.mem_of_getElem? (i := 874) (show lw_tbl[874]? = some (.code ⟨"GrownTownLaw", "part", "(II)I"⟩ method_2_code 2 (some .int)) from rfl)
set_option maxRecDepth 100000 in
theorem z_c301 : zcw 301 ∈ lw_tbl := List.mem_of_getElem? (i := 874) (show lw_tbl[874]? = some (.code ⟨"GrownTownLaw", "part", "(II)I"⟩ method_2_code 2 (some .int)) from rfl)
set_option maxRecDepth 100000 in
theorem z_c302 : zcw 302 ∈ lw_tbl := List.mem_of_getElem? (i := 874) (show lw_tbl[874]? = some (.code ⟨"GrownTownLaw", "part", "(II)I"⟩ method_2_code 2 (some .int)) from rfl)
set_option maxRecDepth 100000 in
theorem z_c303 : zcw 303 ∈ lw_tbl := List.mem_of_getElem? (i := 874) (show lw_tbl[874]? = some (.code ⟨"GrownTownLaw", "part", "(II)I"⟩ method_2_code 2 (some .int)) from rfl)
set_option maxRecDepth 100000 in
theorem z_c304 : zcw 304 ∈ lw_tbl := List.mem_of_getElem? (i := 874) (show lw_tbl[874]? = some (.code ⟨"GrownTownLaw", "part", "(II)I"⟩ method_2_code 2 (some .int)) from rfl)
set_option maxRecDepth 100000 in
theorem z_c305 : zcw 305 ∈ lw_tbl := List.mem_of_getElem? (i := 874) (show lw_tbl[874]? = some (.code ⟨"GrownTownLaw", "part", "(II)I"⟩ method_2_code 2 (some .int)) from rfl)
set_option maxRecDepth 100000 in
theorem z_c306 : zcw 306 ∈ lw_tbl := List.mem_of_getElem? (i := 874) (show lw_tbl[874]? = some (.code ⟨"GrownTownLaw", "part", "(II)I"⟩ method_2_code 2 (some .int)) from rfl)
set_option maxRecDepth 100000 in
theorem z_c307 : zcw 307 ∈ lw_tbl := List.mem_of_getElem? (i := 874) (show lw_tbl[874]? = some (.code ⟨"GrownTownLaw", "part", "(II)I"⟩ method_2_code 2 (some .int)) from rfl)
set_option maxRecDepth 100000 in
theorem z_c308 : zcw 308 ∈ lw_tbl := List.mem_of_getElem? (i := 874) (show lw_tbl[874]? = some (.code ⟨"GrownTownLaw", "part", "(II)I"⟩ method_2_code 2 (some .int)) from rfl)
set_option maxRecDepth 100000 in
theorem z_c309 : zcw 309 ∈ lw_tbl := List.mem_of_getElem? (i := 874) (show lw_tbl[874]? = some (.code ⟨"GrownTownLaw", "part", "(II)I"⟩ method_2_code 2 (some .int)) from rfl)
set_option maxRecDepth 100000 in
theorem z_c310 : zcw 310 ∈ lw_tbl := List.mem_of_getElem? (i := 874) (show lw_tbl[874]? = some (.code ⟨"GrownTownLaw", "part", "(II)I"⟩ method_2_code 2 (some .int)) from rfl)
set_option maxRecDepth 100000 in
theorem z_c311 : zcw 311 ∈ lw_tbl := List.mem_of_getElem? (i := 874) (show lw_tbl[874]? = some (.code ⟨"GrownTownLaw", "part", "(II)I"⟩ method_2_code 2 (some .int)) from rfl)
set_option maxRecDepth 100000 in
theorem z_c312 : zcw 312 ∈ lw_tbl := List.mem_of_getElem? (i := 874) (show lw_tbl[874]? = some (.code ⟨"GrownTownLaw", "part", "(II)I"⟩ method_2_code 2 (some .int)) from rfl)
set_option maxRecDepth 100000 in
theorem z_c313 : zcw 313 ∈ lw_tbl := List.mem_of_getElem? (i := 874) (show lw_tbl[874]? = some (.code ⟨"GrownTownLaw", "part", "(II)I"⟩ method_2_code 2 (some .int)) from rfl)
set_option maxRecDepth 100000 in
theorem z_c314 : zcw 314 ∈ lw_tbl := List.mem_of_getElem? (i := 874) (show lw_tbl[874]? = some (.code ⟨"GrownTownLaw", "part", "(II)I"⟩ method_2_code 2 (some .int)) from rfl)
set_option maxRecDepth 100000 in
theorem z_c315 : zcw 315 ∈ lw_tbl := List.mem_of_getElem? (i := 874) (show lw_tbl[874]? = some (.code ⟨"GrownTownLaw", "part", "(II)I"⟩ method_2_code 2 (some .int)) from rfl)
set_option maxRecDepth 100000 in
theorem z_c316 : zcw 316 ∈ lw_tbl := List.mem_of_getElem? (i := 874) (show lw_tbl[874]? = some (.code ⟨"GrownTownLaw", "part", "(II)I"⟩ method_2_code 2 (some .int)) from rfl)
set_option maxRecDepth 100000 in
theorem z_c317 : zcw 317 ∈ lw_tbl := List.mem_of_getElem? (i := 874) (show lw_tbl[874]? = some (.code ⟨"GrownTownLaw", "part", "(II)I"⟩ method_2_code 2 (some .int)) from rfl)
set_option maxRecDepth 100000 in
theorem z_c318 : zcw 318 ∈ lw_tbl := List.mem_of_getElem? (i := 874) (show lw_tbl[874]? = some (.code ⟨"GrownTownLaw", "part", "(II)I"⟩ method_2_code 2 (some .int)) from rfl)
set_option maxRecDepth 100000 in
theorem z_c319 : zcw 319 ∈ lw_tbl := List.mem_of_getElem? (i := 89) (show lw_tbl[89]? = some (.code ⟨"java/util/Arrays", "fill", "([II)V"⟩ prog_20_method_103_code 4 (none)) from rfl)
set_option maxRecDepth 100000 in
theorem z_c320 : zcw 320 ∈ lw_tbl := List.mem_of_getElem? (i := 92) (show lw_tbl[92]? = some (.code ⟨"java/util/Arrays", "fill", "([JJ)V"⟩ prog_20_method_101_code 5 (none)) from rfl)
set_option maxRecDepth 100000 in
theorem z_c321 : zcw 321 ∈ lw_tbl := List.mem_of_getElem? (i := 632) (show lw_tbl[632]? = some (.code ⟨"java/lang/Long", "bitCount", "(J)I"⟩ prog_15_method_50_code 2 (some .int)) from rfl)
set_option maxRecDepth 100000 in
theorem z_c322 : zcw 322 ∈ lw_tbl := List.mem_of_getElem? (i := 874) (show lw_tbl[874]? = some (.code ⟨"GrownTownLaw", "part", "(II)I"⟩ method_2_code 2 (some .int)) from rfl)
set_option maxRecDepth 100000 in
theorem z_c323 : zcw 323 ∈ lw_tbl := List.mem_of_getElem? (i := 878) (show lw_tbl[878]? = some (.code ⟨"GrownTownLaw", "cell", "([II)I"⟩ method_3_code 2 (some .int)) from rfl)
set_option maxRecDepth 100000 in
theorem z_c324 : zcw 324 ∈ lw_tbl := List.mem_of_getElem? (i := 882) (show lw_tbl[882]? = some (.code ⟨"GrownTownLaw", "lawText", "([I[IIII[I)I"⟩ method_7_code 11 (some .int)) from rfl)
set_option maxRecDepth 100000 in
theorem z_c325 : zcw 325 ∈ lw_tbl := List.mem_of_getElem? (i := 886) (show lw_tbl[886]? = some (.code ⟨"GrownTownLaw", "put", "([IIJ)I"⟩ method_4_code 7 (some .int)) from rfl)
set_option maxRecDepth 100000 in
theorem z_c326 : zcw 326 ∈ lw_tbl := List.mem_of_getElem? (i := 889) (show lw_tbl[889]? = some (.code ⟨"GrownTownLaw", "number", "([III)I"⟩ method_5_code 5 (some .int)) from rfl)
set_option maxRecDepth 100000 in
theorem z_c327 : zcw 327 ∈ lw_tbl := List.mem_of_getElem? (i := 897) (show lw_tbl[897]? = some (.code ⟨"GrownTownLaw", "use", "([III)I"⟩ method_6_code 3 (some .int)) from rfl)
set_option maxRecDepth 100000 in
theorem z_c328 : zcw 328 ∈ lw_tbl := List.mem_of_getElem? (i := 905) (show lw_tbl[905]? = some (.code ⟨"GrownTownLaw", "feeds", "(LGrownTown;[II[I[J)V"⟩ method_8_code 6 (none)) from rfl)
set_option maxRecDepth 100000 in
theorem z_c329 : zcw 329 ∈ lw_tbl := List.mem_of_getElem? (i := 916) (show lw_tbl[916]? = some (.code ⟨"GrownTownLaw", "tells", "(LGrownTown;[I[J)I"⟩ method_9_code 6 (some .int)) from rfl)
set_option maxRecDepth 100000 in
theorem z_c330 : zcw 330 ∈ lw_tbl := List.mem_of_getElem? (i := 1119) (show lw_tbl[1119]? = some (.code ⟨"GrownTownLaw", "town", "(LGrownTown;[II[I[I[II)I"⟩ method_10_code 19 (some .int)) from rfl)
set_option maxRecDepth 100000 in
theorem z_c331 : zcw 331 ∈ lw_tbl := List.mem_of_getElem? (i := 1153) (show lw_tbl[1153]? = some (.code ⟨"GrownTownLaw", "far", "(III)I"⟩ method_11_code 5 (some .int)) from rfl)
theorem z_args0 : ((List.range 40).drop 0).all (fun y => decide ((parseMethodDescriptor (zmn y).desc).map (fun d => d.parameters.length) = some (zma y)) && plainName (zmn y).cls) = true := by decide +kernel
theorem z_args1 : ((List.range 80).drop 40).all (fun y => decide ((parseMethodDescriptor (zmn y).desc).map (fun d => d.parameters.length) = some (zma y)) && plainName (zmn y).cls) = true := by decide +kernel
theorem z_args2 : ((List.range 120).drop 80).all (fun y => decide ((parseMethodDescriptor (zmn y).desc).map (fun d => d.parameters.length) = some (zma y)) && plainName (zmn y).cls) = true := by decide +kernel
theorem z_args3 : ((List.range 160).drop 120).all (fun y => decide ((parseMethodDescriptor (zmn y).desc).map (fun d => d.parameters.length) = some (zma y)) && plainName (zmn y).cls) = true := by decide +kernel
theorem z_args4 : ((List.range 200).drop 160).all (fun y => decide ((parseMethodDescriptor (zmn y).desc).map (fun d => d.parameters.length) = some (zma y)) && plainName (zmn y).cls) = true := by decide +kernel
theorem z_args5 : ((List.range 240).drop 200).all (fun y => decide ((parseMethodDescriptor (zmn y).desc).map (fun d => d.parameters.length) = some (zma y)) && plainName (zmn y).cls) = true := by decide +kernel
theorem z_args6 : ((List.range 280).drop 240).all (fun y => decide ((parseMethodDescriptor (zmn y).desc).map (fun d => d.parameters.length) = some (zma y)) && plainName (zmn y).cls) = true := by decide +kernel
theorem z_args7 : ((List.range 320).drop 280).all (fun y => decide ((parseMethodDescriptor (zmn y).desc).map (fun d => d.parameters.length) = some (zma y)) && plainName (zmn y).cls) = true := by decide +kernel
theorem z_args8 : ((List.range 332).drop 320).all (fun y => decide ((parseMethodDescriptor (zmn y).desc).map (fun d => d.parameters.length) = some (zma y)) && plainName (zmn y).cls) = true := by decide +kernel
theorem z_law : zmn 0 = x ∧ zmb 0 = code ∧ zml 0 = maxLocals ∧ zmr 0 = ret := ⟨rfl, rfl, rfl, rfl⟩
def zlk0 : List ((Nat × Nat) × (Nat × Nat) × List Nat) := [((13, 103), (2, 178), [62, 63, 41, 64]),
  ((13, 104), (1, 330), [1117, 1118, 40, 1119]),
  ((13, 100), (0, 226), [856, 857, 858, 41, 859]),
  ((13, 25), (1, 323), [876, 877, 40, 878]),
  ((13, 29), (1, 322), [872, 873, 40, 874]),
  ((13, 108), (0, 184), [514, 515, 516, 41, 517]),
  ((13, 89), (0, 185), [575, 576, 577, 41, 578]),
  ((13, 110), (0, 212), [749, 750, 751, 41, 752]),
  ((13, 92), (1, 331), [1151, 1152, 40, 1153]),
  ((13, 113), (0, 213), [759, 760, 761, 41, 762]),
  ((13, 116), (0, 214), [818, 819, 820, 41, 821]),
  ((13, 119), (0, 197), [593, 594, 595, 41, 596]),
  ((13, 122), (0, 215), [834, 835, 836, 41, 837]),
  ((13, 125), (0, 216), [843, 844, 845, 41, 846]),
  ((13, 128), (0, 198), [735, 736, 737, 41, 738]),
  ((13, 77), (1, 324), [880, 881, 40, 882]),
  ((13, 81), (1, 328), [903, 904, 40, 905]),
  ((13, 85), (1, 329), [914, 915, 40, 916]),
  ((13, 131), (0, 189), [589, 590, 591, 41, 592]),
  ((0, 3), (6, 0), [256, 66, 67]),
  ((0, 31), (0, 3), [539, 532, 533, 48, 534]),
  ((0, 35), (0, 5), [540, 542, 2, 48, 543]),
  ((0, 48), (4, 179), [544, 85, 41, 86]),
  ((0, 43), (5, 59), [1108, 150, 46, 151]),
  ((0, 44), (0, 65), [1109, 1110, 1111, 46, 1112]),
  ((0, 39), (0, 4), [1114, 536, 537, 48, 538]),
  ((1, 3), (6, 0), [79, 66, 67]),
  ((1, 28), (0, 13), [80, 81, 82, 43, 83]),
  ((1, 32), (4, 179), [84, 85, 41, 86]),
  ((1, 49), (1, 319), [87, 88, 44, 89]),
  ((1, 55), (1, 320), [90, 91, 44, 92]),
  ((1, 58), (0, 14), [93, 95, 0, 43, 96]),
  ((1, 61), (0, 15), [97, 99, 1, 43, 100]),
  ((1, 65), (4, 180), [112, 113, 41, 114]),
  ((1, 69), (0, 16), [101, 102, 103, 43, 104]),
  ((1, 73), (9, 0), [105, 106, 45]),
  ((1, 78), (0, 17), [108, 109, 110, 43, 111]),
  ((1, 81), (0, 18), [569, 519, 520, 43, 521]),
  ((1, 85), (1, 21), [811, 812, 43, 813]),
  ((1, 88), (0, 22), [570, 572, 3, 43, 573])]
def zlk1 : List ((Nat × Nat) × (Nat × Nat) × List Nat) := [((1, 94), (1, 321), [630, 631, 59, 632]),
  ((1, 100), (0, 29), [733, 658, 659, 43, 660]),
  ((2, 3), (6, 0), [281, 66, 67]),
  ((2, 118), (0, 35), [930, 932, 17, 49, 933]),
  ((2, 124), (0, 49), [1045, 1047, 30, 49, 1048]),
  ((2, 127), (0, 50), [1049, 1051, 31, 49, 1052]),
  ((2, 35), (0, 36), [934, 936, 18, 49, 937]),
  ((2, 39), (0, 37), [938, 940, 19, 49, 941]),
  ((2, 42), (0, 39), [946, 948, 21, 49, 949]),
  ((2, 28), (0, 38), [942, 944, 20, 49, 945]),
  ((2, 52), (0, 40), [950, 952, 22, 49, 953]),
  ((2, 45), (0, 41), [954, 956, 23, 49, 957]),
  ((2, 56), (0, 42), [958, 960, 24, 49, 961]),
  ((2, 59), (0, 43), [962, 964, 25, 49, 965]),
  ((2, 49), (0, 46), [1033, 1035, 27, 49, 1036]),
  ((2, 63), (0, 47), [1037, 1039, 28, 49, 1040]),
  ((2, 66), (0, 48), [1041, 1043, 29, 49, 1044]),
  ((2, 69), (1, 44), [966, 967, 49, 968]),
  ((2, 73), (0, 45), [981, 983, 26, 49, 984]),
  ((2, 77), (7, 0), [985, 986, 987, 55, 988]),
  ((2, 82), (8, 0), [995, 996, 997, 55, 998]),
  ((2, 137), (0, 51), [1053, 1055, 32, 49, 1056]),
  ((2, 141), (0, 52), [1057, 1059, 33, 49, 1060]),
  ((2, 147), (0, 60), [1061, 1062, 1063, 46, 1064]),
  ((2, 144), (0, 53), [1065, 1067, 34, 49, 1068]),
  ((2, 150), (0, 54), [1069, 1071, 35, 49, 1072]),
  ((2, 154), (0, 55), [1073, 1075, 36, 49, 1076]),
  ((2, 157), (0, 56), [1077, 1079, 37, 49, 1080]),
  ((2, 160), (0, 61), [1081, 1082, 1083, 46, 1084]),
  ((2, 163), (0, 63), [1085, 1086, 1087, 46, 1088]),
  ((2, 167), (0, 64), [1094, 1091, 1092, 46, 1093]),
  ((2, 170), (0, 57), [1095, 1097, 38, 49, 1098]),
  ((2, 174), (0, 58), [1099, 1101, 39, 49, 1102]),
  ((2, 178), (0, 62), [1103, 623, 624, 46, 625]),
  ((3, 1), (6, 0), [152, 66, 67]),
  ((3, 25), (0, 62), [651, 623, 624, 46, 625]),
  ((3, 17), (0, 60), [1089, 1062, 1063, 46, 1064]),
  ((3, 21), (0, 64), [1090, 1091, 1092, 46, 1093]),
  ((3, 29), (0, 63), [1113, 1086, 1087, 46, 1088]),
  ((3, 36), (4, 179), [652, 85, 41, 86])]
def zlk2 : List ((Nat × Nat) × (Nat × Nat) × List Nat) := [((4, 3), (6, 0), [448, 66, 67]),
  ((4, 28), (4, 179), [842, 85, 41, 86]),
  ((4, 32), (11, 0), [851, 691, 45]),
  ((5, 3), (6, 0), [416, 66, 67]),
  ((5, 25), (4, 179), [758, 85, 41, 86]),
  ((5, 39), (0, 130), [772, 765, 766, 42, 767]),
  ((5, 48), (11, 0), [773, 691, 45]),
  ((5, 54), (0, 77), [774, 776, 12, 52, 777]),
  ((5, 62), (0, 80), [786, 788, 15, 52, 789]),
  ((5, 66), (0, 82), [796, 798, 16, 52, 799]),
  ((5, 70), (0, 78), [778, 780, 13, 52, 781]),
  ((5, 29), (0, 79), [782, 784, 14, 52, 785]),
  ((5, 74), (0, 81), [790, 791, 792, 52, 793]),
  ((5, 77), (4, 180), [794, 113, 41, 114]),
  ((5, 81), (0, 28), [795, 642, 643, 43, 644]),
  ((5, 86), (0, 83), [800, 801, 802, 52, 803]),
  ((5, 89), (1, 84), [804, 805, 52, 806]),
  ((5, 93), (1, 85), [815, 816, 52, 817]),
  ((5, 97), (0, 20), [807, 808, 809, 43, 810]),
  ((5, 100), (0, 25), [814, 566, 567, 43, 568]),
  ((6, 5), (6, 0), [168, 66, 67]),
  ((6, 70), (0, 88), [553, 554, 555, 47, 556]),
  ((6, 66), (0, 89), [557, 558, 559, 47, 560]),
  ((6, 74), (0, 94), [610, 611, 612, 47, 613]),
  ((6, 62), (4, 179), [665, 85, 41, 86]),
  ((6, 78), (4, 180), [666, 113, 41, 114]),
  ((6, 84), (1, 319), [672, 88, 44, 89]),
  ((6, 90), (1, 320), [673, 91, 44, 92]),
  ((6, 93), (0, 98), [674, 675, 676, 47, 677]),
  ((6, 95), (0, 99), [678, 680, 4, 47, 681]),
  ((6, 98), (0, 100), [682, 684, 5, 47, 685]),
  ((6, 102), (0, 101), [686, 688, 6, 47, 689]),
  ((6, 105), (11, 0), [690, 691, 45]),
  ((6, 110), (0, 102), [693, 695, 7, 47, 696]),
  ((7, 1), (6, 0), [471, 66, 67]),
  ((7, 19), (1, 319), [472, 88, 44, 89]),
  ((7, 31), (0, 108), [865, 866, 867, 54, 868]),
  ((7, 25), (4, 179), [869, 85, 41, 86]),
  ((8, 3), (6, 0), [73, 66, 67]),
  ((8, 11), (2, 12), [76, 77, 43, 78])]
def zlk3 : List ((Nat × Nat) × (Nat × Nat) × List Nat) := [((8, 20), (5, 59), [149, 150, 46, 151]),
  ((8, 27), (5, 86), [165, 166, 47, 167]),
  ((8, 42), (0, 13), [1128, 81, 82, 43, 83]),
  ((8, 59), (0, 19), [734, 585, 586, 43, 587]),
  ((8, 63), (0, 24), [527, 528, 529, 43, 530]),
  ((8, 66), (0, 87), [549, 550, 551, 47, 552]),
  ((8, 69), (0, 90), [561, 562, 563, 47, 564]),
  ((8, 73), (0, 25), [565, 566, 567, 43, 568]),
  ((8, 84), (0, 119), [618, 619, 620, 42, 621]),
  ((8, 77), (0, 62), [622, 623, 624, 46, 625]),
  ((8, 80), (0, 27), [626, 627, 628, 43, 629]),
  ((8, 93), (0, 28), [641, 642, 643, 43, 644]),
  ((8, 97), (0, 16), [645, 102, 103, 43, 104]),
  ((8, 100), (0, 17), [646, 109, 110, 43, 111]),
  ((8, 103), (0, 68), [647, 648, 649, 46, 650]),
  ((8, 107), (0, 69), [653, 654, 655, 46, 656]),
  ((8, 110), (0, 29), [657, 658, 659, 43, 660]),
  ((8, 113), (0, 95), [606, 607, 608, 47, 609]),
  ((8, 90), (0, 118), [614, 615, 616, 42, 617]),
  ((8, 117), (0, 26), [636, 581, 582, 43, 583]),
  ((8, 120), (0, 120), [637, 638, 639, 42, 640]),
  ((8, 123), (0, 96), [661, 662, 663, 47, 664]),
  ((8, 127), (4, 179), [601, 85, 41, 86]),
  ((8, 131), (0, 121), [602, 603, 604, 42, 605]),
  ((8, 134), (0, 97), [668, 669, 670, 47, 671]),
  ((8, 137), (0, 123), [697, 699, 8, 42, 700]),
  ((8, 141), (0, 124), [710, 712, 9, 42, 713]),
  ((8, 144), (0, 125), [721, 723, 10, 42, 724]),
  ((8, 147), (0, 126), [725, 727, 11, 42, 728]),
  ((8, 150), (0, 30), [729, 730, 731, 43, 732]),
  ((8, 153), (0, 98), [701, 675, 676, 47, 677]),
  ((8, 156), (0, 103), [702, 703, 704, 47, 705]),
  ((8, 159), (0, 104), [706, 707, 708, 47, 709]),
  ((8, 160), (0, 88), [714, 554, 555, 47, 556]),
  ((8, 163), (12, 0), [715, 716, 45]),
  ((8, 168), (10, 0), [718, 719, 45]),
  ((8, 171), (0, 127), [747, 740, 741, 42, 742]),
  ((8, 174), (0, 18), [748, 519, 520, 43, 521]),
  ((9, 3), (6, 0), [372, 66, 67]),
  ((10, 5), (6, 0), [323, 66, 67])]
def zlk4 : List ((Nat × Nat) × (Nat × Nat) × List Nat) := [((10, 52), (1, 319), [1137, 88, 44, 89]),
  ((11, 1), (6, 0), [65, 66, 67]),
  ((11, 9), (5, 113), [70, 71, 42, 72]),
  ((11, 21), (5, 1), [253, 254, 48, 255]),
  ((11, 28), (5, 32), [278, 279, 49, 280]),
  ((11, 35), (5, 59), [317, 150, 46, 151]),
  ((11, 46), (2, 146), [320, 321, 50, 322]),
  ((11, 55), (2, 131), [369, 370, 51, 371]),
  ((11, 64), (5, 74), [413, 414, 52, 415]),
  ((11, 71), (5, 70), [445, 446, 53, 447]),
  ((11, 78), (2, 105), [468, 469, 54, 470]),
  ((11, 83), (1, 179), [522, 85, 41, 86]),
  ((11, 87), (0, 114), [1124, 1125, 1126, 42, 1127]),
  ((11, 91), (0, 2), [1129, 1130, 1131, 48, 1132]),
  ((11, 94), (0, 147), [1133, 1134, 1135, 50, 1136]),
  ((11, 97), (0, 132), [1138, 1139, 1140, 51, 1141]),
  ((11, 103), (0, 18), [518, 519, 520, 43, 521]),
  ((11, 109), (0, 115), [828, 829, 830, 42, 831]),
  ((11, 112), (0, 3), [531, 532, 533, 48, 534]),
  ((11, 119), (0, 4), [535, 536, 537, 48, 538]),
  ((11, 123), (0, 20), [832, 808, 809, 43, 810]),
  ((11, 127), (0, 23), [1147, 1148, 1149, 43, 1150]),
  ((11, 130), (0, 116), [523, 524, 525, 42, 526]),
  ((11, 134), (0, 117), [545, 546, 547, 42, 548]),
  ((11, 137), (0, 24), [579, 528, 529, 43, 530]),
  ((11, 141), (0, 26), [580, 581, 582, 43, 583]),
  ((11, 144), (0, 19), [584, 585, 586, 43, 587]),
  ((11, 151), (0, 87), [588, 550, 551, 47, 552]),
  ((11, 156), (0, 33), [910, 911, 912, 49, 913]),
  ((11, 163), (0, 34), [926, 927, 928, 49, 929]),
  ((11, 170), (0, 6), [1104, 1105, 1106, 48, 1107]),
  ((11, 177), (0, 65), [1115, 1110, 1111, 46, 1112]),
  ((11, 231), (0, 122), [597, 598, 599, 42, 600]),
  ((11, 235), (0, 127), [739, 740, 741, 42, 742]),
  ((11, 238), (0, 128), [743, 744, 745, 42, 746]),
  ((11, 312), (0, 28), [753, 642, 643, 43, 644]),
  ((11, 315), (0, 75), [754, 755, 756, 52, 757]),
  ((11, 317), (0, 130), [764, 765, 766, 42, 767]),
  ((11, 320), (0, 76), [768, 769, 770, 52, 771]),
  ((11, 333), (0, 81), [822, 791, 792, 52, 793])]
def zlk5 : List ((Nat × Nat) × (Nat × Nat) × List Nat) := [((11, 336), (0, 83), [823, 801, 802, 52, 803]),
  ((11, 339), (0, 182), [824, 825, 826, 41, 827]),
  ((11, 342), (0, 184), [833, 515, 516, 41, 517]),
  ((11, 345), (0, 71), [838, 839, 840, 53, 841]),
  ((11, 346), (0, 72), [847, 848, 849, 53, 850]),
  ((11, 349), (0, 73), [852, 853, 854, 53, 855]),
  ((11, 383), (0, 30), [860, 730, 731, 43, 732]),
  ((11, 356), (0, 107), [861, 862, 863, 54, 864]),
  ((11, 392), (0, 108), [870, 866, 867, 54, 868]),
  ((11, 395), (0, 29), [871, 658, 659, 43, 660]),
  ((13, 19), (1, 325), [884, 885, 40, 886]),
  ((13, 35), (1, 326), [887, 888, 40, 889]),
  ((13, 49), (1, 327), [895, 896, 40, 897]),
  ((13, 52), (0, 186), [906, 907, 908, 41, 909]),
  ((13, 60), (0, 187), [918, 919, 920, 41, 921]),
  ((13, 64), (0, 188), [922, 923, 924, 41, 925]),
  ((13, 68), (0, 181), [1120, 1121, 1122, 41, 1123]),
  ((13, 71), (0, 182), [1142, 825, 826, 41, 827]),
  ((13, 74), (0, 183), [1143, 1144, 1145, 41, 1146])]
def zlk : List ((Nat × Nat) × (Nat × Nat) × List Nat) := zlk0 ++ (zlk1 ++ (zlk2 ++ (zlk3 ++ (zlk4 ++ (zlk5)))))
def zlw (e : (Nat × Nat) × (Nat × Nat) × List Nat) : List Cond := match e.2.1.1 with
  | 0 => [.methodLink (zcn e.1.1) e.1.2 (zmn e.2.1.2), .instanceMethod (zmn e.2.1.2), .selects (zmn e.2.1.2).cls (zmn e.2.1.2) (zmn e.2.1.2), .initialized (zmn e.2.1.2).cls]
  | 1 => [.methodLink (zcn e.1.1) e.1.2 (zmn e.2.1.2), .static (zmn e.2.1.2), .initialized (zmn e.2.1.2).cls]
  | 2 => [.methodLink (zcn e.1.1) e.1.2 (zmn e.2.1.2), .instanceMethod (zmn e.2.1.2), .initialized (zmn e.2.1.2).cls]
  | 4 => [.methodLinkNest (zcn e.1.1) e.1.2 (zmn e.2.1.2) "GrownTown", .static (zmn e.2.1.2), .initialized (zmn e.2.1.2).cls]
  | 5 => [.methodLinkNest (zcn e.1.1) e.1.2 (zmn e.2.1.2) "GrownTown", .instanceMethod (zmn e.2.1.2), .initialized (zmn e.2.1.2).cls]
  | 6 => [.methodLink (zcn e.1.1) e.1.2 Lib.objectInit, .instanceMethod Lib.objectInit]
  | 7 => [.methodLink (zcn e.1.1) e.1.2 ⟨"java/lang/String", "length", "()I"⟩]
  | 8 => [.methodLink (zcn e.1.1) e.1.2 ⟨"java/lang/String", "charAt", "(I)C"⟩]
  | 9 => [.methodLink (zcn e.1.1) e.1.2 Lib.Math.abs.name, .static Lib.Math.abs.name, .initialized "java/lang/Math"]
  | 10 => [.methodLink (zcn e.1.1) e.1.2 Lib.Math.max.name, .static Lib.Math.max.name, .initialized "java/lang/Math"]
  | 11 => [.methodLink (zcn e.1.1) e.1.2 Lib.Math.min.name, .static Lib.Math.min.name, .initialized "java/lang/Math"]
  | 12 => [.methodLink (zcn e.1.1) e.1.2 ⟨"java/lang/Math", "floorDiv", "(II)I"⟩, .static ⟨"java/lang/Math", "floorDiv", "(II)I"⟩, .initialized "java/lang/Math"]
  | _ => []
def zlkT (e : (Nat × Nat) × (Nat × Nat) × List Nat) : Bool := (match e.2.1.1 with
  | 0 => decide (zms e.2.1.2 = false)
  | 1 => decide (zms e.2.1.2 = true)
  | 2 => decide (zms e.2.1.2 = false) && decide ((zmn e.2.1.2).name = "<init>") && decide (zmr e.2.1.2 = none)
  | 4 => decide (zms e.2.1.2 = true)
  | 5 => decide (zms e.2.1.2 = false) && decide ((zmn e.2.1.2).name = "<init>") && decide (zmr e.2.1.2 = none)
  | 6 => true
  | 7 => true
  | 8 => true
  | 9 => true
  | 10 => true
  | 11 => true
  | 12 => true
  | _ => false) && decide (e.2.1.2 < 332) && decide ((zlw e).map some = (e.2.2.take (zlw e).length).map (fun i => lw_tbl[i]?))
set_option maxRecDepth 100000 in
theorem z_links0 : zlk0.all zlkT = true := by decide +kernel
set_option maxRecDepth 100000 in
theorem z_links1 : zlk1.all zlkT = true := by decide +kernel
set_option maxRecDepth 100000 in
theorem z_links2 : zlk2.all zlkT = true := by decide +kernel
set_option maxRecDepth 100000 in
theorem z_links3 : zlk3.all zlkT = true := by decide +kernel
set_option maxRecDepth 100000 in
theorem z_links4 : zlk4.all zlkT = true := by decide +kernel
set_option maxRecDepth 100000 in
theorem z_links5 : zlk5.all zlkT = true := by decide +kernel
theorem z_links : zlk.all zlkT = true := by
  simp only [zlk, List.all_append, Bool.and_eq_true]
  exact ⟨z_links0, z_links1, z_links2, z_links3, z_links4, z_links5⟩
def zlink (c idx : Nat) : Option (Nat × Nat) := (zlk.find? (fun e => e.1.1 == c && e.1.2 == idx)).map (·.2.1)
set_option maxRecDepth 100000 in
def zfl : List ((Nat × Nat) × (Nat × Nat) × Nat) := [((0, 11), (0, 1), 261),
  ((0, 15), (0, 2), 262),
  ((0, 18), (0, 3), 263),
  ((0, 23), (0, 4), 264),
  ((0, 27), (0, 0), 259),
  ((1, 9), (1, 4), 121),
  ((1, 15), (1, 5), 122),
  ((1, 18), (1, 6), 123),
  ((1, 21), (1, 7), 124),
  ((1, 25), (1, 8), 125),
  ((1, 36), (1, 0), 115),
  ((1, 40), (1, 1), 116),
  ((1, 43), (1, 2), 117),
  ((1, 46), (1, 3), 120),
  ((2, 11), (2, 3), 288),
  ((2, 15), (2, 5), 290),
  ((2, 18), (2, 6), 291),
  ((2, 21), (2, 7), 292),
  ((2, 24), (2, 0), 282),
  ((2, 110), (3, 0), 156),
  ((2, 115), (2, 1), 285),
  ((2, 121), (2, 8), 293),
  ((2, 32), (2, 4), 289),
  ((2, 134), (2, 9), 294),
  ((2, 131), (2, 2), 287),
  ((3, 9), (3, 1), 157),
  ((3, 13), (3, 0), 154),
  ((4, 11), (4, 1), 451),
  ((4, 15), (4, 2), 452),
  ((4, 18), (4, 3), 453),
  ((4, 21), (4, 4), 454),
  ((4, 24), (4, 0), 449),
  ((5, 11), (5, 4), 425),
  ((5, 15), (5, 5), 426),
  ((5, 18), (5, 6), 427),
  ((5, 21), (5, 0), 417),
  ((5, 33), (5, 1), 419),
  ((5, 36), (5, 2), 421),
  ((5, 45), (5, 3), 423),
  ((5, 58), (8, 0), 222),
  ((6, 11), (6, 1), 172),
  ((6, 15), (6, 2), 173),
  ((6, 18), (6, 3), 174),
  ((6, 21), (6, 4), 175),
  ((6, 24), (6, 5), 176),
  ((6, 27), (6, 6), 177),
  ((6, 30), (6, 7), 178),
  ((6, 33), (6, 8), 179),
  ((6, 36), (6, 9), 180),
  ((6, 39), (6, 10), 181),
  ((6, 42), (6, 11), 182),
  ((6, 46), (6, 12), 183),
  ((6, 49), (6, 13), 184),
  ((6, 52), (6, 14), 185),
  ((6, 55), (6, 15), 186),
  ((6, 58), (6, 0), 169),
  ((7, 9), (7, 0), 473),
  ((7, 13), (7, 1), 474),
  ((7, 16), (7, 2), 475),
  ((8, 12), (8, 0), 220),
  ((8, 21), (8, 1), 223),
  ((8, 28), (8, 2), 225),
  ((8, 32), (8, 5), 231),
  ((8, 36), (8, 6), 232),
  ((8, 39), (8, 7), 233),
  ((8, 46), (3, 0), 153),
  ((8, 50), (6, 0), 170),
  ((8, 53), (8, 3), 227),
  ((8, 56), (8, 4), 229),
  ((8, 87), (1, 2), 118),
  ((9, 9), (9, 4), 376),
  ((9, 15), (9, 6), 377),
  ((9, 19), (9, 7), 378),
  ((9, 22), (9, 8), 379),
  ((9, 25), (9, 9), 380),
  ((9, 28), (9, 10), 381),
  ((9, 31), (9, 11), 382),
  ((9, 34), (9, 12), 383),
  ((9, 37), (9, 0), 373),
  ((9, 41), (9, 1), 374),
  ((10, 11), (10, 2), 327),
  ((10, 15), (10, 3), 328),
  ((10, 18), (10, 4), 329),
  ((10, 21), (10, 5), 330),
  ((10, 24), (10, 6), 331),
  ((10, 27), (10, 7), 332),
  ((10, 31), (10, 8), 333),
  ((10, 34), (10, 9), 334),
  ((10, 37), (10, 12), 335),
  ((10, 40), (10, 0), 324),
  ((10, 49), (10, 1), 325),
  ((11, 10), (11, 0), 483),
  ((11, 16), (11, 1), 484),
  ((11, 22), (11, 2), 485),
  ((11, 29), (11, 3), 486),
  ((11, 36), (11, 4), 487),
  ((11, 42), (8, 0), 221),
  ((11, 49), (11, 5), 488),
  ((11, 58), (11, 6), 489),
  ((11, 65), (11, 7), 490),
  ((11, 72), (11, 8), 491),
  ((11, 79), (11, 9), 492),
  ((11, 98), (5, 0), 418),
  ((11, 102), (4, 0), 450),
  ((11, 116), (8, 3), 228),
  ((11, 147), (8, 2), 226),
  ((11, 160), (2, 0), 283),
  ((11, 167), (2, 2), 286),
  ((11, 174), (8, 1), 224),
  ((11, 181), (3, 0), 155),
  ((11, 182), (2, 1), 284),
  ((11, 324), (5, 1), 420),
  ((11, 327), (5, 2), 422),
  ((11, 330), (5, 3), 424),
  ((11, 222), (1, 2), 119),
  ((11, 386), (6, 0), 171),
  ((11, 389), (8, 4), 230),
  ((11, 374), (0, 0), 260),
  ((11, 254), (10, 1), 326),
  ((11, 286), (9, 1), 375)]
def zcl (ci : Nat) : vw_C := vwCl.getD ci (RX0, TX0, 5)
def zflT (e : (Nat × Nat) × (Nat × Nat) × Nat) : Bool := decide (e.2.1.1 < 12) && decide (e.2.1.2 < (zcl e.2.1.1).2.2) && decide (lw_tbl[e.2.2]? = some (.fieldLink (zcn e.1.1) e.1.2 ((zcl e.2.1.1).2.1 e.2.1.2).1 ((zcl e.2.1.1).2.1 e.2.1.2).2.1 ((zcl e.2.1.1).2.1 e.2.1.2).2.2.1)) && decide (((zcl e.2.1.1).2.1 e.2.1.2).1 = (zcl e.2.1.1).1)
set_option maxRecDepth 100000 in
theorem z_fields : zfl.all zflT = true := by decide +kernel
def zfld (c idx : Nat) : Option (Nat × Nat) := (zfl.find? (fun e => e.1.1 == c && e.1.2 == idx)).map (·.2.1)
def zftab : List (List Nat) := [[0, 2, 2, 2, 2], [0, 0, 0, 0, 2, 2, 2, 2, 2], [0, 0, 0, 2, 0, 2, 2, 2, 0, 0], [0, 2], [0, 2, 2, 2, 2], [0, 0, 0, 0, 2, 2, 2], [0, 2, 2, 2, 2, 2, 2, 2, 2, 2, 2, 2, 2, 2, 2, 2], [2, 2, 2], [2, 2, 2, 0, 0, 2, 2, 2], [2, 0, 0, 5, 0, 0, 2, 2, 2, 2, 2, 2, 2], [2, 0, 2, 2, 2, 2, 2, 0, 2, 2, 5, 0, 2, 5, 0], [2, 2, 2, 2, 2, 2, 2, 2, 2, 2]]
def zft (ci k : Nat) : Nat := (zftab.getD ci []).getD k 9
def znf (ci : Nat) : Nat := (zcl ci).2.2
set_option maxRecDepth 100000 in
def zct : List ((Nat × Nat) × (Nat × Int) × Nat) := [((1, 92), (1, -1), 574),
  ((15, 314), (1, 6148914691236517205), 633),
  ((15, 316), (1, 3689348814741910323), 634),
  ((15, 318), (1, 1085102592571150095), 635),
  ((6, 82), (1, -1), 667),
  ((11, 192), (0, -1000000), 763),
  ((13, 7), (0, 2147483647), 875),
  ((13, 8), (0, 2654435), 879),
  ((13, 33), (1, 1718775661), 883),
  ((13, 39), (1, 2054123109), 890),
  ((13, 41), (1, 2003399528), 891),
  ((13, 43), (1, 7627128), 892),
  ((13, 45), (1, 6513008), 893),
  ((13, 47), (1, 465557354085), 894),
  ((13, 9), (1, 1752132965), 898),
  ((13, 11), (1, 2003792491), 899),
  ((13, 13), (1, 1936224112), 900),
  ((13, 15), (1, 512736126322), 901),
  ((13, 17), (1, 1919902052), 902),
  ((13, 58), (1, 32), 917),
  ((2, 86), (3, 0), 969),
  ((2, 88), (3, 1), 970),
  ((2, 90), (3, 2), 971),
  ((2, 92), (3, 3), 972),
  ((2, 94), (3, 4), 973),
  ((2, 96), (3, 5), 974),
  ((2, 98), (3, 6), 975),
  ((2, 100), (3, 7), 976),
  ((2, 102), (3, 8), 977),
  ((2, 104), (3, 9), 978),
  ((2, 106), (3, 10), 979),
  ((2, 108), (3, 11), 980)]
def zstr : List String := ["zone", "wish", "tax", "cap", "leave", "from", "home", "work", "shop", "water", "road", ""]
def zcstT (e : (Nat × Nat) × (Nat × Int) × Nat) : Bool := match e.2.1.1 with
  | 0 => decide (lw_tbl[e.2.2]? = some (.constant (zcn e.1.1) e.1.2 (Int32.ofInt e.2.1.2))) && decide ((Int32.ofInt e.2.1.2).toInt = e.2.1.2)
  | 1 => decide (lw_tbl[e.2.2]? = some (.constantLong (zcn e.1.1) e.1.2 (Int64.ofInt e.2.1.2))) && decide ((Int64.ofInt e.2.1.2).toInt = e.2.1.2)
  | 3 => decide (lw_tbl[e.2.2]? = some (.stringRef (zcn e.1.1) e.1.2 (zstr.getD e.2.1.2.toNat ""))) && decide (0 ≤ e.2.1.2) && decide (e.2.1.2 < 12)
  | _ => false
set_option maxRecDepth 100000 in
theorem z_consts : zct.all zcstT = true := by decide +kernel
def zcst (c idx : Nat) : Option (Nat × Int) := (zct.find? (fun e => e.1.1 == c && e.1.2 == idx)).map (·.2.1)
def znw : List ((Nat × Nat) × Nat × List Nat) := [((13, 53), 11, [60, 61, 41]),
  ((0, 21), 3, [257, 148, 46]),
  ((8, 9), 1, [74, 75, 43]),
  ((8, 18), 3, [147, 148, 46]),
  ((8, 25), 6, [163, 164, 47]),
  ((11, 7), 8, [68, 69, 42]),
  ((11, 19), 0, [251, 252, 48]),
  ((11, 26), 2, [276, 277, 49]),
  ((11, 33), 3, [316, 148, 46]),
  ((11, 40), 10, [318, 319, 50]),
  ((11, 53), 9, [367, 368, 51]),
  ((11, 62), 5, [411, 412, 52]),
  ((11, 69), 4, [443, 444, 53]),
  ((11, 76), 7, [466, 467, 54])]
def znwT (e : (Nat × Nat) × Nat × List Nat) : Bool := decide (e.2.1 < 12) && decide (([.classLink (zcn e.1.1) e.1.2 (zcl e.2.1).1, .instantiable (zcl e.2.1).1 (znf e.2.1), .initialized (zcl e.2.1).1] : List Cond).map some = e.2.2.map (fun i => lw_tbl[i]?))
set_option maxRecDepth 100000 in
theorem z_news : znw.all znwT = true := by decide +kernel
def znew (c idx : Nat) : Option Nat := (znw.find? (fun e => e.1.1 == c && e.1.2 == idx)).map (·.2.1)
set_option maxRecDepth 100000 in
def zkt : List Nat := [12, 9, 2, 20, 20, 20, 21, 21, 4, 20, 7, 20, 20, 20, 20, 20, 20, 20, 20, 20, 20, 21, 20, 21, 20, 20, 20, 20, 20, 9, 2, 20, 20, 20, 21, 21, 4, 20, 7, 20, 20, 20, 20, 20, 20, 20, 20, 20, 20, 21, 20, 21, 20, 20, 20, 20, 20, 1, 20, 20, 20, 23, 3, 20, 20, 20, 20, 4, 20, 11, 20, 20, 20, 20, 20, 20, 20, 20, 10, 20, 20, 20, 20, 20, 20, 20, 6, 20, 20, 20, 5, 20, 20, 20, 20, 8, 20, 20, 20]
set_option maxRecDepth 100000 in
def zlt : List Int := [0, 0, 0, 64, 64, 64, 5, 960, 0, 84, 0, 20, 20, 20, 20, 20, 20, 20, 20, 20, 20, 20, 64, 4, 256, 64, 1536, 96, 20, 0, 0, 64, 64, 64, 5, 960, 0, 84, 0, 20, 20, 20, 20, 20, 20, 20, 20, 20, 20, 20, 64, 4, 256, 64, 1536, 96, 20, 0, 60, 60, 240, 60, 0, 320, 321, 321, 321, 0, 84, 0, 24, 4, 256, 256, 256, 88, 88, 88, 0, 8, 8, 8, 8, 8, 8, 512, 0, 6, 6, 6, 0, 16, 16, 16, 16, 0, 4, 4, 512]
/-- what the cell of a label is, of those that the class makes at its start (0 none; 1 and on an object of a class; 20 ints, 21 longs, 22 booleans, 23 Laws), and how long an array is -/
def KD (a : Int) : Nat := if a ≤ 0 then 0 else if a < 100 then zkt.getD (a - 1).toNat 0 else 0
def LN (a : Int) : Int := if a < 100 then zlt.getD (a - 1).toNat 0 else 0
