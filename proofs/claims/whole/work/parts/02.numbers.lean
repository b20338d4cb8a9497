/-! the tables of the claim, by numbers: methods, links, fields, constants, classes (printed by a program of mine from the claim's own words) -/
def zmt0 : List (MethodName × ByteArray × Nat × Option FieldType × Nat × Nat × Nat × Bool) := [(⟨"GrownTownLaw", "law", "([I)Z"⟩, code, 4, some .boolean, 1, 11, 240, true),
  (⟨"GrownTown$Acts", "<init>", "()V"⟩, prog_2_method_1_code, 1, none, 0, 1, 20, false),
  (⟨"GrownTown$Acts", "forget", "()V"⟩, prog_2_method_2_code, 1, none, 0, 0, 0, false),
  (⟨"GrownTown$Acts", "areFull", "()Z"⟩, prog_2_method_3_code, 1, some .boolean, 0, 0, 0, false),
  (⟨"GrownTown$Acts", "keep", "(IIII)V"⟩, prog_2_method_4_code, 5, none, 4, 2, 44, false),
  (⟨"GrownTown$Acts", "putNumber", "(II)V"⟩, prog_2_method_7_code, 3, none, 2, 1, 22, false),
  (⟨"GrownTown$Acts", "keepLaws", "(ILGrownTown$Laws;)V"⟩, prog_2_method_6_code, 3, none, 2, 3, 72, false),
  (⟨"GrownTown$Acts", "keepSeeker", "(IIIII)V"⟩, prog_2_method_5_code, 6, none, 5, 3, 68, false),
  (⟨"GrownTown$Acts", "yearOf", "(I)I"⟩, prog_2_method_10_code, 2, some .int, 1, 1, 21, false),
  (⟨"GrownTown$Acts", "has", "(I)Z"⟩, prog_2_method_9_code, 2, some .boolean, 1, 0, 0, false),
  (⟨"GrownTown$Acts", "redo", "(ILGrownTown$Town;I)V"⟩, prog_2_method_11_code, 6, none, 3, 4, 88, false),
  (⟨"GrownTown$Acts", "number", "(II)I"⟩, prog_2_method_8_code, 3, some .int, 2, 1, 22, false),
  (⟨"GrownTown$Board", "<init>", "()V"⟩, prog_3_method_1_code, 1, none, 0, 4, 90, false),
  (⟨"GrownTown$Board", "begin", "(II)V"⟩, prog_3_method_2_code, 4, none, 2, 3, 67, false),
  (⟨"GrownTown$Board", "measureNear", "()V"⟩, prog_3_method_3_code, 5, none, 0, 2, 43, false),
  (⟨"GrownTown$Board", "far", "(II)I"⟩, prog_3_method_7_code, 3, some .int, 2, 1, 21, false),
  (⟨"GrownTown$Board", "xOf", "(I)I"⟩, prog_3_method_5_code, 2, some .int, 1, 0, 0, false),
  (⟨"GrownTown$Board", "yOf", "(I)I"⟩, prog_3_method_6_code, 2, some .int, 1, 0, 0, false),
  (⟨"GrownTown$Board", "has", "(I)Z"⟩, prog_3_method_4_code, 2, some .boolean, 1, 0, 0, false),
  (⟨"GrownTown$Board", "useOf", "(I)I"⟩, prog_3_method_11_code, 2, some .int, 1, 0, 0, false),
  (⟨"GrownTown$Board", "putGround", "(II)I"⟩, prog_3_method_13_code, 4, some .int, 2, 2, 43, false),
  (⟨"GrownTown$Board", "thingOfGround", "(I)I"⟩, prog_3_method_16_code, 1, some .int, 1, 0, 0, true),
  (⟨"GrownTown$Board", "becomeThing", "(III)V"⟩, prog_3_method_17_code, 4, none, 3, 1, 20, false),
  (⟨"GrownTown$Board", "putHeight", "(II)I"⟩, prog_3_method_14_code, 4, some .int, 2, 1, 22, false),
  (⟨"GrownTown$Board", "groundOf", "(I)I"⟩, prog_3_method_9_code, 2, some .int, 1, 0, 0, false),
  (⟨"GrownTown$Board", "putUse", "(II)I"⟩, prog_3_method_15_code, 4, some .int, 2, 2, 43, false),
  (⟨"GrownTown$Board", "heightOf", "(I)I"⟩, prog_3_method_10_code, 2, some .int, 1, 0, 0, false),
  (⟨"GrownTown$Board", "countNear", "(III)I"⟩, prog_3_method_20_code, 5, some .int, 3, 1, 21, false),
  (⟨"GrownTown$Board", "isFree", "(I)Z"⟩, prog_3_method_12_code, 2, some .boolean, 1, 1, 21, false),
  (⟨"GrownTown$Board", "countUse", "(I)I"⟩, prog_3_method_18_code, 2, some .int, 1, 1, 21, false),
  (⟨"GrownTown$Board", "countUsed", "()I"⟩, prog_3_method_19_code, 1, some .int, 0, 2, 42, false),
  (⟨"GrownTown$Board", "beside", "(II)I"⟩, prog_3_method_8_code, 3, some .int, 2, 1, 21, false),
  (⟨"GrownTown$LawText", "<init>", "()V"⟩, prog_4_method_1_code, 1, none, 0, 1, 20, false),
  (⟨"GrownTown$LawText", "append", "(J)Z"⟩, prog_4_method_2_code, 4, some .boolean, 1, 0, 0, false),
  (⟨"GrownTown$LawText", "readInto", "(LGrownTown$Laws;)Z"⟩, prog_4_method_17_code, 3, some .boolean, 1, 9, 197, false),
  (⟨"GrownTown$LawText", "split", "()V"⟩, prog_4_method_6_code, 3, none, 0, 8, 175, false),
  (⟨"GrownTown$LawText", "isLastOne", "()Z"⟩, prog_4_method_7_code, 1, some .boolean, 0, 0, 0, false),
  (⟨"GrownTown$LawText", "behindBlanks", "(I)I"⟩, prog_4_method_8_code, 3, some .int, 1, 1, 21, false),
  (⟨"GrownTown$LawText", "byteAt", "(I)I"⟩, prog_4_method_3_code, 2, some .int, 1, 0, 0, false),
  (⟨"GrownTown$LawText", "addTokenAt", "(I)I"⟩, prog_4_method_11_code, 3, some .int, 1, 7, 153, false)]
def zmt1 : List (MethodName × ByteArray × Nat × Option FieldType × Nat × Nat × Nat × Bool) := [(⟨"GrownTown$LawText", "addToken", "(III)V"⟩, prog_4_method_12_code, 4, none, 3, 0, 0, false),
  (⟨"GrownTown$LawText", "isLetter", "(I)Z"⟩, prog_4_method_4_code, 2, some .boolean, 1, 1, 21, false),
  (⟨"GrownTown$LawText", "behindLetters", "(I)I"⟩, prog_4_method_9_code, 3, some .int, 1, 2, 42, false),
  (⟨"GrownTown$LawText", "addName", "(II)V"⟩, prog_4_method_13_code, 4, none, 2, 6, 130, false),
  (⟨"GrownTown$LawText", "word", "(I)Ljava/lang/String;"⟩, prog_4_method_15_code, 1, some (.object "java/lang/String"), 1, 0, 0, true),
  (⟨"GrownTown$LawText", "spells", "(Ljava/lang/String;II)Z"⟩, prog_4_method_14_code, 5, some .boolean, 3, 5, 106, false),
  (⟨"GrownTown$LawText", "isFigure", "(I)Z"⟩, prog_4_method_5_code, 2, some .boolean, 1, 1, 21, false),
  (⟨"GrownTown$LawText", "behindFigures", "(I)I"⟩, prog_4_method_10_code, 3, some .int, 1, 2, 42, false),
  (⟨"GrownTown$LawText", "addNumber", "(II)V"⟩, prog_4_method_16_code, 8, none, 2, 1, 23, false),
  (⟨"GrownTown$LawText", "nextKind", "()I"⟩, prog_4_method_18_code, 1, some .int, 0, 0, 0, false),
  (⟨"GrownTown$LawText", "readLaw", "(LGrownTown$Laws;)Z"⟩, prog_4_method_24_code, 6, some .boolean, 1, 4, 94, false),
  (⟨"GrownTown$LawText", "isNext", "(III)Z"⟩, prog_4_method_20_code, 5, some .boolean, 3, 0, 0, false),
  (⟨"GrownTown$LawText", "refuse", "(I)Z"⟩, prog_4_method_19_code, 3, some .boolean, 1, 0, 0, false),
  (⟨"GrownTown$LawText", "take", "()V"⟩, prog_4_method_21_code, 1, none, 0, 0, 0, false),
  (⟨"GrownTown$LawText", "takeNumber", "(II)Z"⟩, prog_4_method_23_code, 3, some .boolean, 2, 1, 24, false),
  (⟨"GrownTown$LawText", "takeWord", "(II)Z"⟩, prog_4_method_22_code, 3, some .boolean, 2, 1, 24, false),
  (⟨"GrownTown$LawText", "nextUse", "()I"⟩, prog_4_method_25_code, 1, some .int, 0, 0, 0, false),
  (⟨"GrownTown$LawText", "readNumbers", "(ILGrownTown$Laws;I)Z"⟩, prog_4_method_26_code, 4, some .boolean, 3, 3, 71, false),
  (⟨"GrownTown$LawText", "readNumber", "(LGrownTown$Laws;IIII)Z"⟩, prog_4_method_27_code, 6, some .boolean, 5, 2, 46, false),
  (⟨"GrownTown$Laws", "<init>", "()V"⟩, prog_5_method_1_code, 1, none, 0, 1, 20, false),
  (⟨"GrownTown$Laws", "areFull", "()Z"⟩, prog_5_method_3_code, 1, some .boolean, 0, 0, 0, false),
  (⟨"GrownTown$Laws", "tell", "(III)Z"⟩, prog_5_method_8_code, 5, some .boolean, 3, 1, 22, false),
  (⟨"GrownTown$Laws", "at", "(II)I"⟩, prog_5_method_4_code, 3, some .int, 2, 0, 0, false),
  (⟨"GrownTown$Laws", "add", "(II)I"⟩, prog_5_method_6_code, 5, some .int, 2, 1, 23, false),
  (⟨"GrownTown$Laws", "put", "(III)V"⟩, prog_5_method_5_code, 4, none, 3, 0, 0, false),
  (⟨"GrownTown$Laws", "take", "(LGrownTown$Laws;I)V"⟩, prog_5_method_7_code, 6, none, 2, 2, 47, false),
  (⟨"GrownTown$Laws", "has", "(I)Z"⟩, prog_5_method_2_code, 2, some .boolean, 1, 0, 0, false),
  (⟨"GrownTown$Laws", "holds", "(II)Z"⟩, prog_5_method_9_code, 6, some .boolean, 2, 1, 22, false),
  (⟨"GrownTown$Laws", "zonesAllow", "(IIII)Z"⟩, prog_5_method_11_code, 7, some .boolean, 4, 1, 22, false),
  (⟨"GrownTown$Laws", "number", "(III)I"⟩, prog_5_method_10_code, 8, some .int, 3, 1, 22, false),
  (⟨"GrownTown$Notes", "<init>", "()V"⟩, prog_6_method_1_code, 1, none, 0, 1, 20, false),
  (⟨"GrownTown$Notes", "add", "(IIII)I"⟩, prog_6_method_2_code, 5, some .int, 4, 1, 22, false),
  (⟨"GrownTown$Notes", "latest", "(III)I"⟩, prog_6_method_3_code, 5, some .int, 3, 1, 21, false),
  (⟨"GrownTown$Notes", "useIn", "(I)I"⟩, prog_6_method_4_code, 2, some .int, 1, 0, 0, false),
  (⟨"GrownTown$Plans", "<init>", "()V"⟩, prog_7_method_1_code, 1, none, 0, 1, 20, false),
  (⟨"GrownTown$Plans", "add", "(III)I"⟩, prog_7_method_3_code, 4, some .int, 3, 1, 22, false),
  (⟨"GrownTown$Plans", "choose", "(LGrownTown$Town;I)V"⟩, prog_7_method_7_code, 7, none, 2, 6, 141, false),
  (⟨"GrownTown$Plans", "costOf", "(I)I"⟩, prog_7_method_8_code, 4, some .int, 1, 2, 43, false),
  (⟨"GrownTown$Plans", "isIn", "(II)Z"⟩, prog_7_method_6_code, 3, some .boolean, 2, 1, 21, false),
  (⟨"GrownTown$Plans", "has", "(I)Z"⟩, prog_7_method_2_code, 2, some .boolean, 1, 0, 0, false)]
def zmt2 : List (MethodName × ByteArray × Nat × Option FieldType × Nat × Nat × Nat × Bool) := [(⟨"GrownTown$Plans", "canBe", "(ILGrownTown$Board;)Z"⟩, prog_7_method_9_code, 8, some .boolean, 2, 2, 43, false),
  (⟨"GrownTown$Plans", "plotOf", "(I)I"⟩, prog_7_method_4_code, 2, some .int, 1, 1, 21, false),
  (⟨"GrownTown$Plans", "sumAfter", "(ILGrownTown$Town;)I"⟩, prog_7_method_10_code, 5, some .int, 2, 5, 117, false),
  (⟨"GrownTown$Plans", "kindOf", "(I)I"⟩, prog_7_method_5_code, 2, some .int, 1, 1, 21, false),
  (⟨"GrownTown$Plans", "put", "(LGrownTown$Board;II)V"⟩, prog_7_method_11_code, 3, none, 3, 3, 66, true),
  (⟨"GrownTown$Plans", "takeBack", "(LGrownTown$Board;I)V"⟩, prog_7_method_12_code, 2, none, 2, 3, 66, true),
  (⟨"GrownTown$Seekers", "<init>", "()V"⟩, prog_8_method_1_code, 1, none, 0, 1, 20, false),
  (⟨"GrownTown$Seekers", "ownerOf", "(I)I"⟩, prog_8_method_8_code, 3, some .int, 1, 2, 42, false),
  (⟨"GrownTown$Seekers", "plotOf", "(I)I"⟩, prog_8_method_7_code, 2, some .int, 1, 1, 21, false),
  (⟨"GrownTown$Seekers", "has", "(I)Z"⟩, prog_8_method_2_code, 2, some .boolean, 1, 0, 0, false),
  (⟨"GrownTown$Seekers", "leave", "(I)V"⟩, prog_8_method_11_code, 2, none, 1, 1, 21, false),
  (⟨"GrownTown$Seekers", "areFull", "()Z"⟩, prog_8_method_3_code, 1, some .boolean, 0, 0, 0, false),
  (⟨"GrownTown$Seekers", "add", "(IIII)I"⟩, prog_8_method_4_code, 6, some .int, 4, 1, 22, false),
  (⟨"GrownTown$Seekers", "tell", "(II)I"⟩, prog_8_method_5_code, 3, some .int, 2, 1, 21, false),
  (⟨"GrownTown$Seekers", "waits", "(II)Z"⟩, prog_8_method_10_code, 3, some .boolean, 2, 1, 21, false),
  (⟨"GrownTown$Seekers", "want", "(II)Z"⟩, prog_8_method_13_code, 4, some .boolean, 2, 2, 43, false),
  (⟨"GrownTown$Seekers", "see", "(IIIIZ)V"⟩, prog_8_method_14_code, 6, none, 5, 1, 22, false),
  (⟨"GrownTown$Seekers", "settle", "(II)V"⟩, prog_8_method_15_code, 6, none, 2, 4, 96, false),
  (⟨"GrownTown$Seekers", "heldBy", "(I)I"⟩, prog_8_method_9_code, 2, some .int, 1, 1, 21, false),
  (⟨"GrownTown$Seekers", "ask", "(II)Z"⟩, prog_8_method_16_code, 5, some .boolean, 2, 3, 72, false),
  (⟨"GrownTown$Seekers", "bestPlot", "(II)I"⟩, prog_8_method_19_code, 9, some .int, 2, 2, 44, false),
  (⟨"GrownTown$Seekers", "valueOf", "(II)I"⟩, prog_8_method_18_code, 3, some .int, 2, 1, 22, false),
  (⟨"GrownTown$Seekers", "outbids", "(II)Z"⟩, prog_8_method_17_code, 3, some .boolean, 2, 1, 21, false),
  (⟨"GrownTown$Seekers", "own", "(II)V"⟩, prog_8_method_12_code, 3, none, 2, 1, 21, false),
  (⟨"GrownTown$Seekers", "useOf", "(I)I"⟩, prog_8_method_6_code, 2, some .int, 1, 1, 21, false),
  (⟨"GrownTown$Sheets", "<init>", "()V"⟩, prog_9_method_1_code, 1, none, 0, 1, 23, false),
  (⟨"GrownTown$Sheets", "make", "(III)V"⟩, prog_9_method_5_code, 5, none, 3, 1, 22, false),
  (⟨"GrownTown$Sheets", "isNothing", "(I)Z"⟩, prog_9_method_3_code, 2, some .boolean, 1, 2, 43, false),
  (⟨"GrownTown$Sheets", "sizeOf", "(I)I"⟩, prog_9_method_2_code, 2, some .int, 1, 1, 22, false),
  (⟨"GrownTown$Sheets", "hasCell", "(II)Z"⟩, prog_9_method_6_code, 3, some .boolean, 2, 2, 43, false),
  (⟨"GrownTown$Sheets", "put", "(III)V"⟩, prog_9_method_8_code, 4, none, 3, 3, 65, false),
  (⟨"GrownTown$Sheets", "laneOf", "(I)I"⟩, prog_9_method_4_code, 2, some .int, 1, 1, 22, false),
  (⟨"GrownTown$Sheets", "cell", "(II)I"⟩, prog_9_method_7_code, 3, some .int, 2, 3, 65, false),
  (⟨"GrownTown$Town", "<init>", "()V"⟩, prog_10_method_1_code, 1, none, 0, 5, 110, false),
  (⟨"GrownTown$Town", "begin", "(II)V"⟩, prog_10_method_2_code, 3, none, 2, 4, 90, false),
  (⟨"GrownTown$Town", "canGround", "(I)Z"⟩, prog_10_method_3_code, 2, some .boolean, 1, 1, 21, false),
  (⟨"GrownTown$Town", "canUse", "(II)Z"⟩, prog_10_method_4_code, 3, some .boolean, 2, 1, 21, false),
  (⟨"GrownTown$Town", "putUse", "(II)I"⟩, prog_10_method_5_code, 3, some .int, 2, 3, 66, false),
  (⟨"GrownTown$Town", "worthOf", "(II)I"⟩, prog_10_method_7_code, 5, some .int, 2, 3, 70, false),
  (⟨"GrownTown$Town", "adds", "(III)I"⟩, prog_10_method_6_code, 6, some .int, 3, 2, 45, false)]
def zmt3 : List (MethodName × ByteArray × Nat × Option FieldType × Nat × Nat × Nat × Bool) := [(⟨"GrownTown$Town", "mayBecome", "(II)Z"⟩, prog_10_method_9_code, 4, some .boolean, 2, 2, 49, false),
  (⟨"GrownTown$Town", "showPlots", "()V"⟩, prog_10_method_10_code, 3, none, 0, 4, 94, false),
  (⟨"GrownTown$Town", "grow", "()I"⟩, prog_10_method_11_code, 5, some .int, 0, 5, 121, false),
  (⟨"GrownTown$Town", "settleIn", "()I"⟩, prog_10_method_12_code, 4, some .int, 0, 3, 66, false),
  (⟨"GrownTown$Town", "takeTaxes", "()I"⟩, prog_10_method_13_code, 6, some .int, 0, 4, 94, false),
  (⟨"GrownTown$Town", "sendAway", "()I"⟩, prog_10_method_14_code, 5, some .int, 0, 3, 66, false),
  (⟨"GrownTown$Town", "putFigure", "(II)V"⟩, prog_10_method_15_code, 3, none, 2, 1, 22, false),
  (⟨"GrownTown$Town", "remembers", "(I)Z"⟩, prog_10_method_16_code, 2, some .boolean, 1, 0, 0, false),
  (⟨"GrownTown$Town", "usedIn", "(II)I"⟩, prog_10_method_17_code, 3, some .int, 2, 1, 21, false),
  (⟨"GrownTown$Town", "figure", "(II)I"⟩, prog_10_method_18_code, 3, some .int, 2, 1, 22, false),
  (⟨"GrownTown$Town", "sumOfWorths", "()I"⟩, prog_10_method_8_code, 4, some .int, 0, 4, 94, false),
  (⟨"GrownTown$Trips", "<init>", "(LGrownTown$Ways;)V"⟩, prog_11_method_1_code, 2, none, 1, 1, 20, false),
  (⟨"GrownTown$Trips", "forget", "()V"⟩, prog_11_method_2_code, 1, none, 0, 0, 0, false),
  (⟨"GrownTown$Trips", "add", "(II)I"⟩, prog_11_method_4_code, 3, some .int, 2, 1, 22, false),
  (⟨"GrownTown$Trips", "settle", "()V"⟩, prog_11_method_10_code, 2, none, 0, 5, 117, false),
  (⟨"GrownTown$Trips", "begin", "()V"⟩, prog_11_method_11_code, 2, none, 0, 4, 95, false),
  (⟨"GrownTown$Trips", "keepTraced", "(I)V"⟩, prog_11_method_12_code, 3, none, 1, 1, 21, false),
  (⟨"GrownTown$Trips", "has", "(I)Z"⟩, prog_11_method_3_code, 2, some .boolean, 1, 0, 0, false),
  (⟨"GrownTown$Trips", "addCrowd", "(II)V"⟩, prog_11_method_13_code, 4, none, 2, 3, 70, false),
  (⟨"GrownTown$Trips", "goesThrough", "(I)I"⟩, prog_11_method_7_code, 2, some .int, 1, 1, 21, false),
  (⟨"GrownTown$Trips", "plotAt", "(II)I"⟩, prog_11_method_9_code, 3, some .int, 2, 1, 21, false),
  (⟨"GrownTown$Trips", "goRound", "()Z"⟩, prog_11_method_15_code, 3, some .boolean, 0, 4, 95, false),
  (⟨"GrownTown$Trips", "isOut", "(I)Z"⟩, prog_11_method_5_code, 2, some .boolean, 1, 1, 21, false),
  (⟨"GrownTown$Trips", "timeOfWay", "(I)I"⟩, prog_11_method_14_code, 4, some .int, 1, 3, 67, false),
  (⟨"GrownTown$Trips", "takes", "(I)I"⟩, prog_11_method_6_code, 2, some .int, 1, 1, 21, false),
  (⟨"GrownTown$Trips", "takesAlone", "(I)I"⟩, prog_11_method_8_code, 2, some .int, 1, 1, 21, false),
  (⟨"GrownTown$Ways", "<init>", "(LGrownTown$Board;)V"⟩, prog_12_method_1_code, 2, none, 1, 1, 20, false),
  (⟨"GrownTown$Ways", "forgetTrams", "()V"⟩, prog_12_method_3_code, 1, none, 0, 1, 23, false),
  (⟨"GrownTown$Ways", "addTram", "(II)I"⟩, prog_12_method_4_code, 4, some .int, 2, 3, 66, false),
  (⟨"GrownTown$Ways", "addStop", "(II)I"⟩, prog_12_method_5_code, 4, some .int, 2, 2, 43, false),
  (⟨"GrownTown$Ways", "stopsOf", "(I)I"⟩, prog_12_method_6_code, 2, some .int, 1, 1, 22, false),
  (⟨"GrownTown$Ways", "lastStop", "(I)I"⟩, prog_12_method_7_code, 3, some .int, 1, 2, 43, false),
  (⟨"GrownTown$Ways", "stopPlot", "(I)I"⟩, prog_12_method_8_code, 2, some .int, 1, 0, 0, false),
  (⟨"GrownTown$Ways", "measure", "(IZ)V"⟩, prog_12_method_18_code, 5, none, 2, 3, 68, false),
  (⟨"GrownTown$Ways", "layOut", "()V"⟩, prog_12_method_10_code, 5, none, 0, 2, 44, false),
  (⟨"GrownTown$Ways", "bareStep", "(II)I"⟩, prog_12_method_11_code, 4, some .int, 2, 1, 21, false),
  (⟨"GrownTown$Ways", "nearest", "()I"⟩, prog_12_method_19_code, 5, some .int, 0, 0, 0, false),
  (⟨"GrownTown$Ways", "reachPlot", "(I)V"⟩, prog_12_method_21_code, 4, none, 1, 1, 23, false),
  (⟨"GrownTown$Ways", "timeFrom", "(I)I"⟩, prog_12_method_23_code, 2, some .int, 1, 0, 0, false),
  (⟨"GrownTown$Ways", "stepEnd", "(II)I"⟩, prog_12_method_12_code, 3, some .int, 2, 0, 0, false)]
def zmt4 : List (MethodName × ByteArray × Nat × Option FieldType × Nat × Nat × Nat × Bool) := [(⟨"GrownTown$Ways", "stepTime", "(II)I"⟩, prog_12_method_13_code, 4, some .int, 2, 0, 0, false),
  (⟨"GrownTown$Ways", "shorten", "(II)V"⟩, prog_12_method_20_code, 3, none, 2, 0, 0, false),
  (⟨"GrownTown$Ways", "reachAboard", "(I)V"⟩, prog_12_method_22_code, 6, none, 1, 1, 23, false),
  (⟨"GrownTown$Ways", "nextStop", "(II)I"⟩, prog_12_method_9_code, 4, some .int, 2, 0, 0, false),
  (⟨"GrownTown$Ways", "reaches", "(I)Z"⟩, prog_12_method_24_code, 2, some .boolean, 1, 1, 21, false),
  (⟨"GrownTown$Ways", "trace", "(I)V"⟩, prog_12_method_25_code, 5, none, 1, 3, 71, false),
  (⟨"GrownTown$Ways", "changeAt", "(I)V"⟩, prog_12_method_28_code, 3, none, 1, 1, 21, false),
  (⟨"GrownTown$Ways", "isAboard", "(I)Z"⟩, prog_12_method_27_code, 2, some .boolean, 1, 0, 0, false),
  (⟨"GrownTown$Ways", "nextPlot", "(I)I"⟩, prog_12_method_31_code, 4, some .int, 1, 2, 46, false),
  (⟨"GrownTown$Ways", "isStepOn", "(II)Z"⟩, prog_12_method_29_code, 4, some .boolean, 2, 1, 23, false),
  (⟨"GrownTown$Ways", "isRideOn", "(II)Z"⟩, prog_12_method_30_code, 4, some .boolean, 2, 1, 23, false),
  (⟨"GrownTown$Ways", "goOn", "(II)V"⟩, prog_12_method_32_code, 6, none, 2, 2, 46, false),
  (⟨"GrownTown$Ways", "plotAt", "(I)I"⟩, prog_12_method_26_code, 2, some .int, 1, 0, 0, false),
  (⟨"GrownTown$Ways", "changes", "()I"⟩, prog_12_method_2_code, 1, some .int, 0, 0, 0, false),
  (⟨"GrownTown$Ways", "forgetCrowd", "()V"⟩, prog_12_method_16_code, 1, none, 0, 1, 23, false),
  (⟨"GrownTown$Ways", "addCrowd", "(III)V"⟩, prog_12_method_17_code, 6, none, 3, 2, 45, false),
  (⟨"GrownTown$Ways", "sideTo", "(II)I"⟩, prog_12_method_14_code, 4, some .int, 2, 1, 22, false),
  (⟨"GrownTown$Ways", "timeBeside", "(II)I"⟩, prog_12_method_15_code, 3, some .int, 2, 2, 45, false),
  (⟨"GrownTown", "<init>", "()V"⟩, prog_1_method_1_code, 1, none, 0, 6, 130, false),
  (⟨"GrownTown", "within", "(III)Z"⟩, prog_1_method_39_code, 3, some .boolean, 3, 0, 0, true),
  (⟨"GrownTown", "bit", "(I)J"⟩, prog_1_method_40_code, 1, some .long, 1, 0, 0, true),
  (⟨"GrownTown", "board", "(II)I"⟩, prog_1_method_2_code, 3, some .int, 2, 5, 112, false),
  (⟨"GrownTown", "ground", "(II)I"⟩, prog_1_method_3_code, 3, some .int, 2, 3, 68, false),
  (⟨"GrownTown", "height", "(II)I"⟩, prog_1_method_4_code, 3, some .int, 2, 3, 68, false),
  (⟨"GrownTown", "use", "(II)I"⟩, prog_1_method_5_code, 3, some .int, 2, 4, 88, false),
  (⟨"GrownTown", "plot", "(II)I"⟩, prog_1_method_6_code, 3, some .int, 2, 3, 64, false),
  (⟨"GrownTown", "feed", "(J)I"⟩, prog_1_method_7_code, 3, some .int, 1, 1, 23, false),
  (⟨"GrownTown", "end", "(I)I"⟩, prog_1_method_8_code, 3, some .int, 1, 1, 22, false),
  (⟨"GrownTown", "laws", "()I"⟩, prog_1_method_9_code, 2, some .int, 0, 10, 219, false),
  (⟨"GrownTown", "fault", "()I"⟩, prog_1_method_10_code, 1, some .int, 0, 0, 0, false),
  (⟨"GrownTown", "law", "(II)I"⟩, prog_1_method_11_code, 3, some .int, 2, 2, 47, false),
  (⟨"GrownTown", "worth", "(II)I"⟩, prog_1_method_12_code, 3, some .int, 2, 4, 94, false),
  (⟨"GrownTown", "cause", "(III)I"⟩, prog_1_method_13_code, 4, some .int, 3, 3, 70, false),
  (⟨"GrownTown", "may", "(II)I"⟩, prog_1_method_14_code, 3, some .int, 2, 3, 72, false),
  (⟨"GrownTown", "seeker", "(IIII)I"⟩, prog_1_method_15_code, 5, some .int, 4, 4, 93, false),
  (⟨"GrownTown", "told", "(II)I"⟩, prog_1_method_16_code, 3, some .int, 2, 2, 43, false),
  (⟨"GrownTown", "would", "(I)I"⟩, prog_1_method_17_code, 2, some .int, 1, 5, 121, false),
  (⟨"GrownTown", "year", "()I"⟩, prog_1_method_18_code, 1, some .int, 0, 6, 145, false),
  (⟨"GrownTown", "was", "(II)I"⟩, prog_1_method_19_code, 3, some .int, 2, 2, 43, false),
  (⟨"GrownTown", "went", "(II)I"⟩, prog_1_method_20_code, 3, some .int, 2, 2, 44, false)]
def zmt5 : List (MethodName × ByteArray × Nat × Option FieldType × Nat × Nat × Nat × Bool) := [(⟨"GrownTown", "without", "(I)I"⟩, prog_1_method_21_code, 3, some .int, 1, 7, 168, false),
  (⟨"GrownTown", "growAnew", "(I)V"⟩, prog_1_method_42_code, 4, none, 1, 6, 145, false),
  (⟨"GrownTown", "differs", "(I)Z"⟩, prog_1_method_43_code, 3, some .boolean, 1, 2, 43, false),
  (⟨"GrownTown", "withoutMore", "(I)I"⟩, prog_1_method_22_code, 3, some .int, 1, 7, 168, false),
  (⟨"GrownTown", "tram", "(II)I"⟩, prog_1_method_23_code, 3, some .int, 2, 4, 89, false),
  (⟨"GrownTown", "canStop", "(I)Z"⟩, prog_1_method_41_code, 2, some .boolean, 1, 1, 21, false),
  (⟨"GrownTown", "stop", "(II)I"⟩, prog_1_method_24_code, 3, some .int, 2, 3, 66, false),
  (⟨"GrownTown", "time", "(II)I"⟩, prog_1_method_25_code, 3, some .int, 2, 4, 92, false),
  (⟨"GrownTown", "way", "(III)I"⟩, prog_1_method_26_code, 4, some .int, 3, 4, 95, false),
  (⟨"GrownTown", "trip", "(II)I"⟩, prog_1_method_27_code, 3, some .int, 2, 4, 92, false),
  (⟨"GrownTown", "balance", "()I"⟩, prog_1_method_28_code, 1, some .int, 0, 6, 138, false),
  (⟨"GrownTown", "trips", "(II)I"⟩, prog_1_method_29_code, 3, some .int, 2, 6, 138, false),
  (⟨"GrownTown", "plan", "(III)I"⟩, prog_1_method_30_code, 4, some .int, 3, 2, 45, false),
  (⟨"GrownTown", "chosen", "(II)I"⟩, prog_1_method_31_code, 3, some .int, 2, 7, 167, false),
  (⟨"GrownTown", "build", "(I)I"⟩, prog_1_method_32_code, 4, some .int, 1, 5, 110, false),
  (⟨"GrownTown", "note", "(III)I"⟩, prog_1_method_33_code, 4, some .int, 3, 2, 46, false),
  (⟨"GrownTown", "known", "(III)I"⟩, prog_1_method_34_code, 5, some .int, 3, 2, 45, false),
  (⟨"GrownTown", "sheet", "(III)I"⟩, prog_1_method_35_code, 4, some .int, 3, 2, 46, false),
  (⟨"GrownTown", "lay", "(III)I"⟩, prog_1_method_36_code, 4, some .int, 3, 4, 88, false),
  (⟨"GrownTown", "draw", "(III)I"⟩, prog_1_method_37_code, 5, some .int, 3, 6, 136, false),
  (⟨"GrownTown", "faultOfCells", "(II)I"⟩, prog_1_method_44_code, 5, some .int, 2, 4, 87, false),
  (⟨"GrownTown", "groundIsRefused", "(II)Z"⟩, prog_1_method_47_code, 4, some .boolean, 2, 5, 110, false),
  (⟨"GrownTown", "newGround", "(III)Z"⟩, prog_1_method_45_code, 4, some .boolean, 3, 4, 87, false),
  (⟨"GrownTown", "actsToDraw", "(II)I"⟩, prog_1_method_48_code, 5, some .int, 2, 5, 110, false),
  (⟨"GrownTown", "newHeight", "(III)Z"⟩, prog_1_method_46_code, 4, some .boolean, 3, 4, 87, false),
  (⟨"GrownTown", "drawPlots", "(II)I"⟩, prog_1_method_49_code, 7, some .int, 2, 5, 110, false),
  (⟨"GrownTown", "count", "(I)I"⟩, prog_1_method_38_code, 2, some .int, 1, 3, 64, false),
  (⟨"GrownTownModel", "<init>", "()V"⟩, prog_14_method_1_code, 1, none, 0, 1, 20, false),
  (⟨"GrownTownModel", "board", "(II)I"⟩, prog_14_method_7_code, 3, some .int, 2, 1, 25, false),
  (⟨"GrownTownModel", "in", "(JJJ)Z"⟩, prog_14_method_3_code, 6, some .boolean, 3, 0, 0, true),
  (⟨"GrownTownModel", "clearTown", "()V"⟩, prog_14_method_6_code, 2, none, 0, 0, 0, false),
  (⟨"GrownTownModel", "ground", "(II)I"⟩, prog_14_method_9_code, 4, some .int, 2, 2, 46, false),
  (⟨"GrownTownModel", "isPlot", "(I)Z"⟩, prog_14_method_5_code, 2, some .boolean, 1, 1, 25, false),
  (⟨"GrownTownModel", "plots", "()I"⟩, prog_14_method_4_code, 1, some .int, 0, 0, 0, false),
  (⟨"GrownTownModel", "record", "(IIIII)V"⟩, prog_14_method_8_code, 6, none, 5, 0, 0, false),
  (⟨"GrownTownModel", "height", "(II)I"⟩, prog_14_method_10_code, 4, some .int, 2, 2, 46, false),
  (⟨"GrownTownModel", "use", "(II)I"⟩, prog_14_method_12_code, 4, some .int, 2, 2, 46, false),
  (⟨"GrownTownModel", "free", "(I)V"⟩, prog_14_method_11_code, 3, none, 1, 0, 0, false),
  (⟨"GrownTownModel", "plot", "(II)I"⟩, prog_14_method_13_code, 3, some .int, 2, 2, 46, false),
  (⟨"GrownTownModel", "feed", "(J)I"⟩, prog_14_method_14_code, 4, some .int, 1, 0, 0, false)]
def zmt6 : List (MethodName × ByteArray × Nat × Option FieldType × Nat × Nat × Nat × Bool) := [(⟨"GrownTownModel", "end", "(I)I"⟩, prog_14_method_15_code, 3, some .int, 1, 1, 25, false),
  (⟨"GrownTownModel", "laws", "()I"⟩, prog_14_method_24_code, 2, some .int, 0, 6, 141, false),
  (⟨"GrownTownModel", "next", "()V"⟩, prog_14_method_19_code, 3, none, 0, 2, 46, false),
  (⟨"GrownTownModel", "byteAt", "(I)I"⟩, prog_14_method_16_code, 2, some .int, 1, 0, 0, false),
  (⟨"GrownTownModel", "nameAt", "(II)I"⟩, prog_14_method_18_code, 6, some .int, 2, 1, 21, false),
  (⟨"GrownTownModel", "fails", "(I)V"⟩, prog_14_method_17_code, 2, none, 1, 0, 0, false),
  (⟨"GrownTownModel", "oneLaw", "()V"⟩, prog_14_method_22_code, 5, none, 0, 5, 117, false),
  (⟨"GrownTownModel", "number", "(II)I"⟩, prog_14_method_20_code, 4, some .int, 2, 3, 68, false),
  (⟨"GrownTownModel", "isToldAlready", "(III)Z"⟩, prog_14_method_21_code, 6, some .boolean, 3, 0, 0, false),
  (⟨"GrownTownModel", "behind", "(III)V"⟩, prog_14_method_23_code, 7, none, 3, 4, 91, false),
  (⟨"GrownTownModel", "fault", "()I"⟩, prog_14_method_25_code, 1, some .int, 0, 0, 0, false),
  (⟨"GrownTownModel", "law", "(II)I"⟩, prog_14_method_27_code, 3, some .int, 2, 1, 26, false),
  (⟨"GrownTownModel", "holds", "(II)Z"⟩, prog_14_method_26_code, 7, some .boolean, 2, 0, 0, false),
  (⟨"GrownTownModel", "worth", "(II)I"⟩, prog_14_method_32_code, 3, some .int, 2, 3, 79, false),
  (⟨"GrownTownModel", "worthOf", "(III)I"⟩, prog_14_method_31_code, 6, some .int, 3, 2, 54, false),
  (⟨"GrownTownModel", "adds", "(IIII)I"⟩, prog_14_method_30_code, 9, some .int, 4, 1, 26, false),
  (⟨"GrownTownModel", "farOf", "(II)I"⟩, prog_14_method_29_code, 5, some .int, 2, 0, 0, false),
  (⟨"GrownTownModel", "cause", "(III)I"⟩, prog_14_method_33_code, 4, some .int, 3, 2, 54, false),
  (⟨"GrownTownModel", "may", "(II)I"⟩, prog_14_method_36_code, 3, some .int, 2, 3, 79, false),
  (⟨"GrownTownModel", "mayBe", "(III)Z"⟩, prog_14_method_35_code, 9, some .boolean, 3, 2, 51, false),
  (⟨"GrownTownModel", "limit", "(III)I"⟩, prog_14_method_28_code, 6, some .int, 3, 1, 26, false),
  (⟨"GrownTownModel", "usesOf", "(I)I"⟩, prog_14_method_34_code, 4, some .int, 1, 1, 20, false),
  (⟨"GrownTownModel", "seeker", "(IIII)I"⟩, prog_14_method_39_code, 5, some .int, 4, 1, 25, false),
  (⟨"GrownTownModel", "comes", "(IIII)V"⟩, prog_14_method_38_code, 5, none, 4, 0, 0, false),
  (⟨"GrownTownModel", "told", "(II)I"⟩, prog_14_method_40_code, 3, some .int, 2, 2, 46, false),
  (⟨"GrownTownModel", "isSeeker", "(I)Z"⟩, prog_14_method_37_code, 2, some .boolean, 1, 1, 25, false),
  (⟨"GrownTownModel", "would", "(I)I"⟩, prog_14_method_46_code, 2, some .int, 1, 4, 105, false),
  (⟨"GrownTownModel", "seeks", "(I)Z"⟩, prog_14_method_41_code, 2, some .boolean, 1, 0, 0, false),
  (⟨"GrownTownModel", "settleBids", "()V"⟩, prog_14_method_45_code, 7, none, 0, 3, 79, false),
  (⟨"GrownTownModel", "asks", "(I)I"⟩, prog_14_method_44_code, 5, some .int, 1, 1, 22, false),
  (⟨"GrownTownModel", "valueOf", "(II)I"⟩, prog_14_method_42_code, 3, some .int, 2, 0, 0, false),
  (⟨"GrownTownModel", "bidOf", "(II)I"⟩, prog_14_method_43_code, 4, some .int, 2, 1, 22, false),
  (⟨"GrownTownModel", "year", "()I"⟩, prog_14_method_49_code, 2, some .int, 0, 5, 127, false),
  (⟨"GrownTownModel", "goYear", "()V"⟩, prog_14_method_47_code, 3, none, 0, 4, 105, false),
  (⟨"GrownTownModel", "withUse", "()I"⟩, prog_14_method_48_code, 1, some .int, 0, 2, 43, false),
  (⟨"GrownTownModel", "was", "(II)I"⟩, prog_14_method_51_code, 3, some .int, 2, 2, 46, false),
  (⟨"GrownTownModel", "isPast", "(I)Z"⟩, prog_14_method_50_code, 2, some .boolean, 1, 1, 25, false),
  (⟨"GrownTownModel", "went", "(II)I"⟩, prog_14_method_52_code, 3, some .int, 2, 2, 46, false),
  (⟨"GrownTownModel", "without", "(I)I"⟩, prog_14_method_57_code, 2, some .int, 1, 6, 152, false),
  (⟨"GrownTownModel", "growAnew", "(I)V"⟩, prog_14_method_56_code, 6, none, 1, 5, 127, false)]
def zmt7 : List (MethodName × ByteArray × Nat × Option FieldType × Nat × Nat × Nat × Bool) := [(⟨"GrownTownModel", "putAside", "()V"⟩, prog_14_method_53_code, 2, none, 0, 0, 0, false),
  (⟨"GrownTownModel", "again", "(II)V"⟩, prog_14_method_55_code, 7, none, 2, 1, 24, false),
  (⟨"GrownTownModel", "bringBack", "()V"⟩, prog_14_method_54_code, 2, none, 0, 0, 0, false),
  (⟨"GrownTownModel", "withoutMore", "(I)I"⟩, prog_14_method_58_code, 2, some .int, 1, 6, 152, false),
  (⟨"GrownTownModel", "tram", "(II)I"⟩, prog_14_method_59_code, 3, some .int, 2, 2, 46, false),
  (⟨"GrownTownModel", "stop", "(II)I"⟩, prog_14_method_60_code, 3, some .int, 2, 2, 46, false),
  (⟨"GrownTownModel", "time", "(II)I"⟩, prog_14_method_71_code, 3, some .int, 2, 4, 94, false),
  (⟨"GrownTownModel", "clearCrowd", "()V"⟩, prog_14_method_66_code, 2, none, 0, 0, 0, false),
  (⟨"GrownTownModel", "layWay", "(II)Z"⟩, prog_14_method_70_code, 3, some .boolean, 2, 3, 72, false),
  (⟨"GrownTownModel", "layDistances", "(I)V"⟩, prog_14_method_65_code, 6, none, 1, 2, 47, false),
  (⟨"GrownTownModel", "isState", "(I)Z"⟩, prog_14_method_62_code, 2, some .boolean, 1, 1, 20, false),
  (⟨"GrownTownModel", "takes", "(II)I"⟩, prog_14_method_64_code, 4, some .int, 2, 1, 24, false),
  (⟨"GrownTownModel", "edge", "(II)I"⟩, prog_14_method_63_code, 5, some .int, 2, 0, 0, false),
  (⟨"GrownTownModel", "plotOf", "(I)I"⟩, prog_14_method_61_code, 2, some .int, 1, 0, 0, false),
  (⟨"GrownTownModel", "way", "(III)I"⟩, prog_14_method_72_code, 4, some .int, 3, 4, 96, false),
  (⟨"GrownTownModel", "layPath", "(II)V"⟩, prog_14_method_68_code, 6, none, 2, 3, 71, false),
  (⟨"GrownTownModel", "change", "()V"⟩, prog_14_method_67_code, 5, none, 0, 2, 47, false),
  (⟨"GrownTownModel", "goes", "(II)Z"⟩, prog_14_method_69_code, 4, some .boolean, 2, 2, 47, false),
  (⟨"GrownTownModel", "trip", "(II)I"⟩, prog_14_method_73_code, 3, some .int, 2, 4, 94, false),
  (⟨"GrownTownModel", "balance", "()I"⟩, prog_14_method_78_code, 1, some .int, 0, 6, 142, false),
  (⟨"GrownTownModel", "layTrips", "()I"⟩, prog_14_method_77_code, 5, some .int, 0, 5, 118, false),
  (⟨"GrownTownModel", "goBy", "(I)V"⟩, prog_14_method_76_code, 3, none, 1, 4, 96, false),
  (⟨"GrownTownModel", "layCrowd", "(I)V"⟩, prog_14_method_74_code, 4, none, 1, 1, 24, false),
  (⟨"GrownTownModel", "takenBy", "(I)I"⟩, prog_14_method_75_code, 4, some .int, 1, 2, 47, false),
  (⟨"GrownTownModel", "trips", "(II)I"⟩, prog_14_method_79_code, 4, some .int, 2, 6, 142, false),
  (⟨"GrownTownModel", "plan", "(III)I"⟩, prog_14_method_81_code, 4, some .int, 3, 2, 46, false),
  (⟨"GrownTownModel", "canBe", "(I)Z"⟩, prog_14_method_80_code, 2, some .boolean, 1, 0, 0, false),
  (⟨"GrownTownModel", "chosen", "(II)I"⟩, prog_14_method_86_code, 8, some .int, 2, 4, 101, false),
  (⟨"GrownTownModel", "allWorth", "()I"⟩, prog_14_method_82_code, 3, some .int, 0, 3, 79, false),
  (⟨"GrownTownModel", "canDo", "(I)Z"⟩, prog_14_method_83_code, 6, some .boolean, 1, 1, 21, false),
  (⟨"GrownTownModel", "costOf", "(I)I"⟩, prog_14_method_84_code, 4, some .int, 1, 0, 0, false),
  (⟨"GrownTownModel", "tryOut", "(IZ)V"⟩, prog_14_method_85_code, 4, none, 2, 0, 0, false),
  (⟨"GrownTownModel", "build", "(I)I"⟩, prog_14_method_87_code, 3, some .int, 1, 3, 69, false),
  (⟨"GrownTownModel", "note", "(III)I"⟩, prog_14_method_88_code, 4, some .int, 3, 2, 46, false),
  (⟨"GrownTownModel", "known", "(III)I"⟩, prog_14_method_89_code, 6, some .int, 3, 2, 46, false),
  (⟨"GrownTownModel", "sheet", "(III)I"⟩, prog_14_method_90_code, 5, some .int, 3, 1, 25, false),
  (⟨"GrownTownModel", "lay", "(III)I"⟩, prog_14_method_91_code, 4, some .int, 3, 1, 25, false),
  (⟨"GrownTownModel", "draw", "(III)I"⟩, prog_14_method_92_code, 11, some .int, 3, 3, 69, false),
  (⟨"GrownTownModel", "count", "(I)I"⟩, prog_14_method_93_code, 2, some .int, 1, 3, 63, false),
  (⟨"java/util/Arrays", "fill", "([II)V"⟩, prog_20_method_103_code, 4, none, 2, 0, 0, true)]
def zmt8 : List (MethodName × ByteArray × Nat × Option FieldType × Nat × Nat × Nat × Bool) := [(⟨"java/util/Arrays", "fill", "([JJ)V"⟩, prog_20_method_101_code, 5, none, 2, 0, 0, true),
  (⟨"java/lang/Long", "bitCount", "(J)I"⟩, prog_15_method_50_code, 2, some .int, 1, 0, 0, true)]
def zmt : List (MethodName × ByteArray × Nat × Option FieldType × Nat × Nat × Nat × Bool) := zmt0 ++ (zmt1 ++ (zmt2 ++ (zmt3 ++ (zmt4 ++ (zmt5 ++ (zmt6 ++ (zmt7 ++ (zmt8))))))))
def zcn : Nat → String := fun n => (["GrownTown$Acts", "GrownTown$Board", "GrownTown$LawText", "GrownTown$Laws", "GrownTown$Notes", "GrownTown$Plans", "GrownTown$Seekers", "GrownTown$Sheets", "GrownTown$Town", "GrownTown$Trips", "GrownTown$Ways", "GrownTown", "GrownTownModel", "GrownTownLaw", "java/util/Arrays", "java/lang/Long"] : List String).getD n ""
def zM0 : MethodName × ByteArray × Nat × Option FieldType × Nat × Nat × Nat × Bool := (x, code, maxLocals, ret, 1, 0, 0, true)
def zme (y : Nat) : MethodName × ByteArray × Nat × Option FieldType × Nat × Nat × Nat × Bool := zmt.getD y zM0
def zmn (y : Nat) : MethodName := (zme y).1
def zmb (y : Nat) : ByteArray := (zme y).2.1
def zml (y : Nat) : Nat := (zme y).2.2.1
def zmr (y : Nat) : Option FieldType := (zme y).2.2.2.1
def zma (y : Nat) : Nat := (zme y).2.2.2.2.1
def zmf (y : Nat) : Nat := (zme y).2.2.2.2.2.1
def zmo (y : Nat) : Nat := (zme y).2.2.2.2.2.2.1
def zms (y : Nat) : Bool := (zme y).2.2.2.2.2.2.2
def zcode (y pc : Nat) : Option (Instr × Nat) := match decode (zmb y) pc with
  | .ok r => some r
  | .error _ => none
set_option maxRecDepth 100000 in
def zow : List Nat := [13, 0, 0, 0, 0, 0, 0, 0, 0, 0, 0, 0, 1, 1, 1, 1, 1, 1, 1, 1, 1, 1, 1, 1, 1, 1, 1, 1, 1, 1, 1, 1, 2, 2, 2, 2, 2, 2, 2, 2, 2, 2, 2, 2, 2, 2, 2, 2, 2, 2, 2, 2, 2, 2, 2, 2, 2, 2, 2, 3, 3, 3, 3, 3, 3, 3, 3, 3, 3, 3, 4, 4, 4, 4, 5, 5, 5, 5, 5, 5, 5, 5, 5, 5, 5, 5, 6, 6, 6, 6, 6, 6, 6, 6, 6, 6, 6, 6, 6, 6, 6, 6, 6, 6, 6, 7, 7, 7, 7, 7, 7, 7, 7, 8, 8, 8, 8, 8, 8, 8, 8, 8, 8, 8, 8, 8, 8, 8, 8, 8, 8, 9, 9, 9, 9, 9, 9, 9, 9, 9, 9, 9, 9, 9, 9, 9, 10, 10, 10, 10, 10, 10, 10, 10, 10, 10, 10, 10, 10, 10, 10, 10, 10, 10, 10, 10, 10, 10, 10, 10, 10, 10, 10, 10, 10, 10, 10, 10, 11, 11, 11, 11, 11, 11, 11, 11, 11, 11, 11, 11, 11, 11, 11, 11, 11, 11, 11, 11, 11, 11, 11, 11, 11, 11, 11, 11, 11, 11, 11, 11, 11, 11, 11, 11, 11, 11, 11, 11, 11, 11, 11, 11, 11, 11, 11, 11, 11, 12, 12, 12, 12, 12, 12, 12, 12, 12, 12, 12, 12, 12, 12, 12, 12, 12, 12, 12, 12, 12, 12, 12, 12, 12, 12, 12, 12, 12, 12, 12, 12, 12, 12, 12, 12, 12, 12, 12, 12, 12, 12, 12, 12, 12, 12, 12, 12, 12, 12, 12, 12, 12, 12, 12, 12, 12, 12, 12, 12, 12, 12, 12, 12, 12, 12, 12, 12, 12, 12, 12, 12, 12, 12, 12, 12, 12, 12, 12, 12, 12, 12, 12, 12, 12, 12, 12, 12, 12, 12, 12, 12, 14, 14, 15]
def zoc (y : Nat) : Nat := zow.getD y 99
theorem z_own : (List.range 322).all (fun y => decide ((zmn y).cls = zcn (zoc y))) = true := by decide +kernel
set_option maxRecDepth 100000 in
def zcp : List Nat := [350, 633, 662, 666, 671, 942, 1037, 1189, 1193, 1197, 1201, 166, 171, 184, 188, 192, 199, 650, 658, 676, 680, 684, 693, 705, 729, 738, 987, 1010, 1025, 1154, 1266, 375, 748, 760, 764, 768, 772, 776, 780, 784, 788, 792, 796, 799, 815, 867, 871, 875, 879, 883, 887, 891, 899, 903, 907, 911, 933, 937, 243, 895, 915, 919, 923, 928, 947, 963, 968, 1016, 1021, 553, 1521, 1530, 1535, 521, 1452, 1465, 1471, 1475, 1479, 1483, 1487, 1493, 1497, 1500, 1505, 259, 713, 717, 721, 725, 1033, 1041, 1051, 1059, 1067, 1075, 1081, 1087, 1091, 1095, 1099, 1106, 1127, 1131, 576, 1543, 1552, 1556, 1560, 1564, 1569, 1582, 160, 628, 654, 701, 709, 978, 982, 1006, 1063, 1115, 1122, 1135, 1146, 1150, 1163, 1167, 1177, 1461, 472, 642, 1357, 1366, 1374, 1386, 1390, 1396, 1400, 1404, 1416, 1420, 1424, 1437, 1442, 417, 637, 1227, 1232, 1236, 1244, 1248, 1258, 1262, 1271, 1278, 1282, 1286, 1290, 1294, 1298, 1302, 1306, 1310, 1319, 1324, 1328, 1332, 1336, 1341, 1345, 1349, 1370, 1378, 1408, 1412, 1428, 152, 174, 202, 623, 646, 689, 697, 733, 744, 752, 756, 955, 959, 973, 997, 1002, 1029, 1046, 1055, 1111, 1159, 1173, 1181, 1185, 1211, 1215, 1219, 1223, 1240, 1254, 1315, 1353, 1362, 1432, 1447, 1457, 1509, 1517, 1526, 1539, 1548, 1573, 1578, 1586, 1590, 1594, 1598, 1602, 1607, 1615, 1859, 1863, 1867, 1871, 1875, 1879, 1884, 1888, 1893, 1898, 1902, 1906, 1910, 1914, 1918, 1922, 1928, 1932, 1938, 1943, 1948, 1952, 1957, 1961, 1965, 1969, 1973, 1977, 1981, 1986, 1990, 1994, 1998, 2002, 2006, 2013, 2017, 2021, 2025, 2029, 2033, 2037, 2041, 2045, 2049, 2053, 2057, 2061, 2065, 2069, 2073, 2078, 2082, 2086, 2090, 2094, 2098, 2102, 2106, 2110, 2114, 2118, 2123, 2127, 2131, 2135, 2139, 2143, 2147, 2151, 2155, 2159, 2163, 2167, 2171, 2175, 2179, 2183, 2187, 2191, 2195, 2199, 2203, 2207, 2211, 2217, 2221, 2225, 2229, 2233, 2238, 177, 180, 990]
def zcw (y : Nat) : Cond := .code (zmn y) (zmb y) (zml y) (zmr y)
set_option maxRecDepth 100000 in
theorem z_c1 : zcw 1 ∈ lw_tbl := List.mem_of_getElem? (i := 350) (show lw_tbl[350]? = some (.code ⟨"GrownTown$Acts", "<init>", "()V"⟩ prog_2_method_1_code 1 (none)) from rfl)
set_option maxRecDepth 100000 in
theorem z_c2 : zcw 2 ∈ lw_tbl := List.mem_of_getElem? (i := 633) (show lw_tbl[633]? = some (.code ⟨"GrownTown$Acts", "forget", "()V"⟩ prog_2_method_2_code 1 (none)) from rfl)
set_option maxRecDepth 100000 in
theorem z_c3 : zcw 3 ∈ lw_tbl := List.mem_of_getElem? (i := 662) (show lw_tbl[662]? = some (.code ⟨"GrownTown$Acts", "areFull", "()Z"⟩ prog_2_method_3_code 1 (some .boolean)) from rfl)
set_option maxRecDepth 100000 in
theorem z_c4 : zcw 4 ∈ lw_tbl := List.mem_of_getElem? (i := 666) (show lw_tbl[666]? = some (.code ⟨"GrownTown$Acts", "keep", "(IIII)V"⟩ prog_2_method_4_code 5 (none)) from rfl)
set_option maxRecDepth 100000 in
theorem z_c5 : zcw 5 ∈ lw_tbl := List.mem_of_getElem? (i := 671) (show lw_tbl[671]? = some (.code ⟨"GrownTown$Acts", "putNumber", "(II)V"⟩ prog_2_method_7_code 3 (none)) from rfl)
set_option maxRecDepth 100000 in
theorem z_c6 : zcw 6 ∈ lw_tbl := List.mem_of_getElem? (i := 942) (show lw_tbl[942]? = some (.code ⟨"GrownTown$Acts", "keepLaws", "(ILGrownTown$Laws;)V"⟩ prog_2_method_6_code 3 (none)) from rfl)
set_option maxRecDepth 100000 in
theorem z_c7 : zcw 7 ∈ lw_tbl := List.mem_of_getElem? (i := 1037) (show lw_tbl[1037]? = some (.code ⟨"GrownTown$Acts", "keepSeeker", "(IIIII)V"⟩ prog_2_method_5_code 6 (none)) from rfl)
set_option maxRecDepth 100000 in
theorem z_c8 : zcw 8 ∈ lw_tbl := List.mem_of_getElem? (i := 1189) (show lw_tbl[1189]? = some (.code ⟨"GrownTown$Acts", "yearOf", "(I)I"⟩ prog_2_method_10_code 2 (some .int)) from rfl)
set_option maxRecDepth 100000 in
theorem z_c9 : zcw 9 ∈ lw_tbl := List.mem_of_getElem? (i := 1193) (show lw_tbl[1193]? = some (.code ⟨"GrownTown$Acts", "has", "(I)Z"⟩ prog_2_method_9_code 2 (some .boolean)) from rfl)
set_option maxRecDepth 100000 in
theorem z_c10 : zcw 10 ∈ lw_tbl := List.mem_of_getElem? (i := 1197) (show lw_tbl[1197]? = some (.code ⟨"GrownTown$Acts", "redo", "(ILGrownTown$Town;I)V"⟩ prog_2_method_11_code 6 (none)) from rfl)
set_option maxRecDepth 100000 in
theorem z_c11 : zcw 11 ∈ lw_tbl := List.mem_of_getElem? (i := 1201) (show lw_tbl[1201]? = some (.code ⟨"GrownTown$Acts", "number", "(II)I"⟩ prog_2_method_8_code 3 (some .int)) from rfl)
set_option maxRecDepth 100000 in
theorem z_c12 : zcw 12 ∈ lw_tbl := List.mem_of_getElem? (i := 166) (show lw_tbl[166]? = some (.code ⟨"GrownTown$Board", "<init>", "()V"⟩ prog_3_method_1_code 1 (none)) from rfl)
set_option maxRecDepth 100000 in
theorem z_c13 : zcw 13 ∈ lw_tbl := List.mem_of_getElem? (i := 171) (show lw_tbl[171]? = some (.code ⟨"GrownTown$Board", "begin", "(II)V"⟩ prog_3_method_2_code 4 (none)) from rfl)
set_option maxRecDepth 100000 in
theorem z_c14 : zcw 14 ∈ lw_tbl := List.mem_of_getElem? (i := 184) (show lw_tbl[184]? = some (.code ⟨"GrownTown$Board", "measureNear", "()V"⟩ prog_3_method_3_code 5 (none)) from rfl)
set_option maxRecDepth 100000 in
theorem z_c15 : zcw 15 ∈ lw_tbl := List.mem_of_getElem? (i := 188) (show lw_tbl[188]? = some (.code ⟨"GrownTown$Board", "far", "(II)I"⟩ prog_3_method_7_code 3 (some .int)) from rfl)
set_option maxRecDepth 100000 in
theorem z_c16 : zcw 16 ∈ lw_tbl := List.mem_of_getElem? (i := 192) (show lw_tbl[192]? = some (.code ⟨"GrownTown$Board", "xOf", "(I)I"⟩ prog_3_method_5_code 2 (some .int)) from rfl)
set_option maxRecDepth 100000 in
theorem z_c17 : zcw 17 ∈ lw_tbl := List.mem_of_getElem? (i := 199) (show lw_tbl[199]? = some (.code ⟨"GrownTown$Board", "yOf", "(I)I"⟩ prog_3_method_6_code 2 (some .int)) from rfl)
set_option maxRecDepth 100000 in
theorem z_c18 : zcw 18 ∈ lw_tbl := List.mem_of_getElem? (i := 650) (show lw_tbl[650]? = some (.code ⟨"GrownTown$Board", "has", "(I)Z"⟩ prog_3_method_4_code 2 (some .boolean)) from rfl)
set_option maxRecDepth 100000 in
theorem z_c19 : zcw 19 ∈ lw_tbl := List.mem_of_getElem? (i := 658) (show lw_tbl[658]? = some (.code ⟨"GrownTown$Board", "useOf", "(I)I"⟩ prog_3_method_11_code 2 (some .int)) from rfl)
set_option maxRecDepth 100000 in
theorem z_c20 : zcw 20 ∈ lw_tbl := List.mem_of_getElem? (i := 676) (show lw_tbl[676]? = some (.code ⟨"GrownTown$Board", "putGround", "(II)I"⟩ prog_3_method_13_code 4 (some .int)) from rfl)
set_option maxRecDepth 100000 in
theorem z_c21 : zcw 21 ∈ lw_tbl := List.mem_of_getElem? (i := 680) (show lw_tbl[680]? = some (.code ⟨"GrownTown$Board", "thingOfGround", "(I)I"⟩ prog_3_method_16_code 1 (some .int)) from rfl)
set_option maxRecDepth 100000 in
theorem z_c22 : zcw 22 ∈ lw_tbl := List.mem_of_getElem? (i := 684) (show lw_tbl[684]? = some (.code ⟨"GrownTown$Board", "becomeThing", "(III)V"⟩ prog_3_method_17_code 4 (none)) from rfl)
set_option maxRecDepth 100000 in
theorem z_c23 : zcw 23 ∈ lw_tbl := List.mem_of_getElem? (i := 693) (show lw_tbl[693]? = some (.code ⟨"GrownTown$Board", "putHeight", "(II)I"⟩ prog_3_method_14_code 4 (some .int)) from rfl)
set_option maxRecDepth 100000 in
theorem z_c24 : zcw 24 ∈ lw_tbl := List.mem_of_getElem? (i := 705) (show lw_tbl[705]? = some (.code ⟨"GrownTown$Board", "groundOf", "(I)I"⟩ prog_3_method_9_code 2 (some .int)) from rfl)
set_option maxRecDepth 100000 in
theorem z_c25 : zcw 25 ∈ lw_tbl := List.mem_of_getElem? (i := 729) (show lw_tbl[729]? = some (.code ⟨"GrownTown$Board", "putUse", "(II)I"⟩ prog_3_method_15_code 4 (some .int)) from rfl)
set_option maxRecDepth 100000 in
theorem z_c26 : zcw 26 ∈ lw_tbl := List.mem_of_getElem? (i := 738) (show lw_tbl[738]? = some (.code ⟨"GrownTown$Board", "heightOf", "(I)I"⟩ prog_3_method_10_code 2 (some .int)) from rfl)
set_option maxRecDepth 100000 in
theorem z_c27 : zcw 27 ∈ lw_tbl := List.mem_of_getElem? (i := 987) (show lw_tbl[987]? = some (.code ⟨"GrownTown$Board", "countNear", "(III)I"⟩ prog_3_method_20_code 5 (some .int)) from rfl)
set_option maxRecDepth 100000 in
theorem z_c28 : zcw 28 ∈ lw_tbl := List.mem_of_getElem? (i := 1010) (show lw_tbl[1010]? = some (.code ⟨"GrownTown$Board", "isFree", "(I)Z"⟩ prog_3_method_12_code 2 (some .boolean)) from rfl)
set_option maxRecDepth 100000 in
theorem z_c29 : zcw 29 ∈ lw_tbl := List.mem_of_getElem? (i := 1025) (show lw_tbl[1025]? = some (.code ⟨"GrownTown$Board", "countUse", "(I)I"⟩ prog_3_method_18_code 2 (some .int)) from rfl)
set_option maxRecDepth 100000 in
theorem z_c30 : zcw 30 ∈ lw_tbl := List.mem_of_getElem? (i := 1154) (show lw_tbl[1154]? = some (.code ⟨"GrownTown$Board", "countUsed", "()I"⟩ prog_3_method_19_code 1 (some .int)) from rfl)
set_option maxRecDepth 100000 in
theorem z_c31 : zcw 31 ∈ lw_tbl := List.mem_of_getElem? (i := 1266) (show lw_tbl[1266]? = some (.code ⟨"GrownTown$Board", "beside", "(II)I"⟩ prog_3_method_8_code 3 (some .int)) from rfl)
set_option maxRecDepth 100000 in
theorem z_c32 : zcw 32 ∈ lw_tbl := List.mem_of_getElem? (i := 375) (show lw_tbl[375]? = some (.code ⟨"GrownTown$LawText", "<init>", "()V"⟩ prog_4_method_1_code 1 (none)) from rfl)
set_option maxRecDepth 100000 in
theorem z_c33 : zcw 33 ∈ lw_tbl := List.mem_of_getElem? (i := 748) (show lw_tbl[748]? = some (.code ⟨"GrownTown$LawText", "append", "(J)Z"⟩ prog_4_method_2_code 4 (some .boolean)) from rfl)
set_option maxRecDepth 100000 in
theorem z_c34 : zcw 34 ∈ lw_tbl := List.mem_of_getElem? (i := 760) (show lw_tbl[760]? = some (.code ⟨"GrownTown$LawText", "readInto", "(LGrownTown$Laws;)Z"⟩ prog_4_method_17_code 3 (some .boolean)) from rfl)
set_option maxRecDepth 100000 in
theorem z_c35 : zcw 35 ∈ lw_tbl := List.mem_of_getElem? (i := 764) (show lw_tbl[764]? = some (.code ⟨"GrownTown$LawText", "split", "()V"⟩ prog_4_method_6_code 3 (none)) from rfl)
set_option maxRecDepth 100000 in
theorem z_c36 : zcw 36 ∈ lw_tbl := List.mem_of_getElem? (i := 768) (show lw_tbl[768]? = some (.code ⟨"GrownTown$LawText", "isLastOne", "()Z"⟩ prog_4_method_7_code 1 (some .boolean)) from rfl)
set_option maxRecDepth 100000 in
theorem z_c37 : zcw 37 ∈ lw_tbl := List.mem_of_getElem? (i := 772) (show lw_tbl[772]? = some (.code ⟨"GrownTown$LawText", "behindBlanks", "(I)I"⟩ prog_4_method_8_code 3 (some .int)) from rfl)
set_option maxRecDepth 100000 in
theorem z_c38 : zcw 38 ∈ lw_tbl := List.mem_of_getElem? (i := 776) (show lw_tbl[776]? = some (.code ⟨"GrownTown$LawText", "byteAt", "(I)I"⟩ prog_4_method_3_code 2 (some .int)) from rfl)
set_option maxRecDepth 100000 in
theorem z_c39 : zcw 39 ∈ lw_tbl := List.mem_of_getElem? (i := 780) (show lw_tbl[780]? = some (.code ⟨"GrownTown$LawText", "addTokenAt", "(I)I"⟩ prog_4_method_11_code 3 (some .int)) from rfl)
set_option maxRecDepth 100000 in
theorem z_c40 : zcw 40 ∈ lw_tbl := List.mem_of_getElem? (i := 784) (show lw_tbl[784]? = some (.code ⟨"GrownTown$LawText", "addToken", "(III)V"⟩ prog_4_method_12_code 4 (none)) from rfl)
set_option maxRecDepth 100000 in
theorem z_c41 : zcw 41 ∈ lw_tbl := List.mem_of_getElem? (i := 788) (show lw_tbl[788]? = some (.code ⟨"GrownTown$LawText", "isLetter", "(I)Z"⟩ prog_4_method_4_code 2 (some .boolean)) from rfl)
set_option maxRecDepth 100000 in
theorem z_c42 : zcw 42 ∈ lw_tbl := List.mem_of_getElem? (i := 792) (show lw_tbl[792]? = some (.code ⟨"GrownTown$LawText", "behindLetters", "(I)I"⟩ prog_4_method_9_code 3 (some .int)) from rfl)
set_option maxRecDepth 100000 in
theorem z_c43 : zcw 43 ∈ lw_tbl := List.mem_of_getElem? (i := 796) (show lw_tbl[796]? = some (.code ⟨"GrownTown$LawText", "addName", "(II)V"⟩ prog_4_method_13_code 4 (none)) from rfl)
set_option maxRecDepth 100000 in
theorem z_c44 : zcw 44 ∈ lw_tbl := List.mem_of_getElem? (i := 799) (show lw_tbl[799]? = some (.code ⟨"GrownTown$LawText", "word", "(I)Ljava/lang/String;"⟩ prog_4_method_15_code 1 (some (.object "java/lang/String"))) from rfl)
set_option maxRecDepth 100000 in
theorem z_c45 : zcw 45 ∈ lw_tbl := List.mem_of_getElem? (i := 815) (show lw_tbl[815]? = some (.code ⟨"GrownTown$LawText", "spells", "(Ljava/lang/String;II)Z"⟩ prog_4_method_14_code 5 (some .boolean)) from rfl)
set_option maxRecDepth 100000 in
theorem z_c46 : zcw 46 ∈ lw_tbl := List.mem_of_getElem? (i := 867) (show lw_tbl[867]? = some (.code ⟨"GrownTown$LawText", "isFigure", "(I)Z"⟩ prog_4_method_5_code 2 (some .boolean)) from rfl)
set_option maxRecDepth 100000 in
theorem z_c47 : zcw 47 ∈ lw_tbl := List.mem_of_getElem? (i := 871) (show lw_tbl[871]? = some (.code ⟨"GrownTown$LawText", "behindFigures", "(I)I"⟩ prog_4_method_10_code 3 (some .int)) from rfl)
set_option maxRecDepth 100000 in
theorem z_c48 : zcw 48 ∈ lw_tbl := List.mem_of_getElem? (i := 875) (show lw_tbl[875]? = some (.code ⟨"GrownTown$LawText", "addNumber", "(II)V"⟩ prog_4_method_16_code 8 (none)) from rfl)
set_option maxRecDepth 100000 in
theorem z_c49 : zcw 49 ∈ lw_tbl := List.mem_of_getElem? (i := 879) (show lw_tbl[879]? = some (.code ⟨"GrownTown$LawText", "nextKind", "()I"⟩ prog_4_method_18_code 1 (some .int)) from rfl)
set_option maxRecDepth 100000 in
theorem z_c50 : zcw 50 ∈ lw_tbl := List.mem_of_getElem? (i := 883) (show lw_tbl[883]? = some (.code ⟨"GrownTown$LawText", "readLaw", "(LGrownTown$Laws;)Z"⟩ prog_4_method_24_code 6 (some .boolean)) from rfl)
set_option maxRecDepth 100000 in
theorem z_c51 : zcw 51 ∈ lw_tbl := List.mem_of_getElem? (i := 887) (show lw_tbl[887]? = some (.code ⟨"GrownTown$LawText", "isNext", "(III)Z"⟩ prog_4_method_20_code 5 (some .boolean)) from rfl)
set_option maxRecDepth 100000 in
theorem z_c52 : zcw 52 ∈ lw_tbl := List.mem_of_getElem? (i := 891) (show lw_tbl[891]? = some (.code ⟨"GrownTown$LawText", "refuse", "(I)Z"⟩ prog_4_method_19_code 3 (some .boolean)) from rfl)
set_option maxRecDepth 100000 in
theorem z_c53 : zcw 53 ∈ lw_tbl := List.mem_of_getElem? (i := 899) (show lw_tbl[899]? = some (.code ⟨"GrownTown$LawText", "take", "()V"⟩ prog_4_method_21_code 1 (none)) from rfl)
set_option maxRecDepth 100000 in
theorem z_c54 : zcw 54 ∈ lw_tbl := List.mem_of_getElem? (i := 903) (show lw_tbl[903]? = some (.code ⟨"GrownTown$LawText", "takeNumber", "(II)Z"⟩ prog_4_method_23_code 3 (some .boolean)) from rfl)
set_option maxRecDepth 100000 in
theorem z_c55 : zcw 55 ∈ lw_tbl := List.mem_of_getElem? (i := 907) (show lw_tbl[907]? = some (.code ⟨"GrownTown$LawText", "takeWord", "(II)Z"⟩ prog_4_method_22_code 3 (some .boolean)) from rfl)
set_option maxRecDepth 100000 in
theorem z_c56 : zcw 56 ∈ lw_tbl := List.mem_of_getElem? (i := 911) (show lw_tbl[911]? = some (.code ⟨"GrownTown$LawText", "nextUse", "()I"⟩ prog_4_method_25_code 1 (some .int)) from rfl)
set_option maxRecDepth 100000 in
theorem z_c57 : zcw 57 ∈ lw_tbl := List.mem_of_getElem? (i := 933) (show lw_tbl[933]? = some (.code ⟨"GrownTown$LawText", "readNumbers", "(ILGrownTown$Laws;I)Z"⟩ prog_4_method_26_code 4 (some .boolean)) from rfl)
set_option maxRecDepth 100000 in
theorem z_c58 : zcw 58 ∈ lw_tbl := List.mem_of_getElem? (i := 937) (show lw_tbl[937]? = some (.code ⟨"GrownTown$LawText", "readNumber", "(LGrownTown$Laws;IIII)Z"⟩ prog_4_method_27_code 6 (some .boolean)) from rfl)
set_option maxRecDepth 100000 in
theorem z_c59 : zcw 59 ∈ lw_tbl := List.mem_of_getElem? (i := 243) (show lw_tbl[243]? = some (.code ⟨"GrownTown$Laws", "<init>", "()V"⟩ prog_5_method_1_code 1 (none)) from rfl)
set_option maxRecDepth 100000 in
theorem z_c60 : zcw 60 ∈ lw_tbl := List.mem_of_getElem? (i := 895) (show lw_tbl[895]? = some (.code ⟨"GrownTown$Laws", "areFull", "()Z"⟩ prog_5_method_3_code 1 (some .boolean)) from rfl)
set_option maxRecDepth 100000 in
theorem z_c61 : zcw 61 ∈ lw_tbl := List.mem_of_getElem? (i := 915) (show lw_tbl[915]? = some (.code ⟨"GrownTown$Laws", "tell", "(III)Z"⟩ prog_5_method_8_code 5 (some .boolean)) from rfl)
set_option maxRecDepth 100000 in
theorem z_c62 : zcw 62 ∈ lw_tbl := List.mem_of_getElem? (i := 919) (show lw_tbl[919]? = some (.code ⟨"GrownTown$Laws", "at", "(II)I"⟩ prog_5_method_4_code 3 (some .int)) from rfl)
set_option maxRecDepth 100000 in
theorem z_c63 : zcw 63 ∈ lw_tbl := List.mem_of_getElem? (i := 923) (show lw_tbl[923]? = some (.code ⟨"GrownTown$Laws", "add", "(II)I"⟩ prog_5_method_6_code 5 (some .int)) from rfl)
set_option maxRecDepth 100000 in
theorem z_c64 : zcw 64 ∈ lw_tbl := List.mem_of_getElem? (i := 928) (show lw_tbl[928]? = some (.code ⟨"GrownTown$Laws", "put", "(III)V"⟩ prog_5_method_5_code 4 (none)) from rfl)
set_option maxRecDepth 100000 in
theorem z_c65 : zcw 65 ∈ lw_tbl := List.mem_of_getElem? (i := 947) (show lw_tbl[947]? = some (.code ⟨"GrownTown$Laws", "take", "(LGrownTown$Laws;I)V"⟩ prog_5_method_7_code 6 (none)) from rfl)
set_option maxRecDepth 100000 in
theorem z_c66 : zcw 66 ∈ lw_tbl := List.mem_of_getElem? (i := 963) (show lw_tbl[963]? = some (.code ⟨"GrownTown$Laws", "has", "(I)Z"⟩ prog_5_method_2_code 2 (some .boolean)) from rfl)
set_option maxRecDepth 100000 in
theorem z_c67 : zcw 67 ∈ lw_tbl := List.mem_of_getElem? (i := 968) (show lw_tbl[968]? = some (.code ⟨"GrownTown$Laws", "holds", "(II)Z"⟩ prog_5_method_9_code 6 (some .boolean)) from rfl)
set_option maxRecDepth 100000 in
theorem z_c68 : zcw 68 ∈ lw_tbl := List.mem_of_getElem? (i := 1016) (show lw_tbl[1016]? = some (.code ⟨"GrownTown$Laws", "zonesAllow", "(IIII)Z"⟩ prog_5_method_11_code 7 (some .boolean)) from rfl)
set_option maxRecDepth 100000 in
theorem z_c69 : zcw 69 ∈ lw_tbl := List.mem_of_getElem? (i := 1021) (show lw_tbl[1021]? = some (.code ⟨"GrownTown$Laws", "number", "(III)I"⟩ prog_5_method_10_code 8 (some .int)) from rfl)
set_option maxRecDepth 100000 in
theorem z_c70 : zcw 70 ∈ lw_tbl := List.mem_of_getElem? (i := 553) (show lw_tbl[553]? = some (.code ⟨"GrownTown$Notes", "<init>", "()V"⟩ prog_6_method_1_code 1 (none)) from rfl)
set_option maxRecDepth 100000 in
theorem z_c71 : zcw 71 ∈ lw_tbl := List.mem_of_getElem? (i := 1521) (show lw_tbl[1521]? = some (.code ⟨"GrownTown$Notes", "add", "(IIII)I"⟩ prog_6_method_2_code 5 (some .int)) from rfl)
set_option maxRecDepth 100000 in
theorem z_c72 : zcw 72 ∈ lw_tbl := List.mem_of_getElem? (i := 1530) (show lw_tbl[1530]? = some (.code ⟨"GrownTown$Notes", "latest", "(III)I"⟩ prog_6_method_3_code 5 (some .int)) from rfl)
set_option maxRecDepth 100000 in
theorem z_c73 : zcw 73 ∈ lw_tbl := List.mem_of_getElem? (i := 1535) (show lw_tbl[1535]? = some (.code ⟨"GrownTown$Notes", "useIn", "(I)I"⟩ prog_6_method_4_code 2 (some .int)) from rfl)
set_option maxRecDepth 100000 in
theorem z_c74 : zcw 74 ∈ lw_tbl := List.mem_of_getElem? (i := 521) (show lw_tbl[521]? = some (.code ⟨"GrownTown$Plans", "<init>", "()V"⟩ prog_7_method_1_code 1 (none)) from rfl)
set_option maxRecDepth 100000 in
theorem z_c75 : zcw 75 ∈ lw_tbl := List.mem_of_getElem? (i := 1452) (show lw_tbl[1452]? = some (.code ⟨"GrownTown$Plans", "add", "(III)I"⟩ prog_7_method_3_code 4 (some .int)) from rfl)
set_option maxRecDepth 100000 in
theorem z_c76 : zcw 76 ∈ lw_tbl := List.mem_of_getElem? (i := 1465) (show lw_tbl[1465]? = some (.code ⟨"GrownTown$Plans", "choose", "(LGrownTown$Town;I)V"⟩ prog_7_method_7_code 7 (none)) from rfl)
set_option maxRecDepth 100000 in
theorem z_c77 : zcw 77 ∈ lw_tbl := List.mem_of_getElem? (i := 1471) (show lw_tbl[1471]? = some (.code ⟨"GrownTown$Plans", "costOf", "(I)I"⟩ prog_7_method_8_code 4 (some .int)) from rfl)
set_option maxRecDepth 100000 in
theorem z_c78 : zcw 78 ∈ lw_tbl := List.mem_of_getElem? (i := 1475) (show lw_tbl[1475]? = some (.code ⟨"GrownTown$Plans", "isIn", "(II)Z"⟩ prog_7_method_6_code 3 (some .boolean)) from rfl)
set_option maxRecDepth 100000 in
theorem z_c79 : zcw 79 ∈ lw_tbl := List.mem_of_getElem? (i := 1479) (show lw_tbl[1479]? = some (.code ⟨"GrownTown$Plans", "has", "(I)Z"⟩ prog_7_method_2_code 2 (some .boolean)) from rfl)
set_option maxRecDepth 100000 in
theorem z_c80 : zcw 80 ∈ lw_tbl := List.mem_of_getElem? (i := 1483) (show lw_tbl[1483]? = some (.code ⟨"GrownTown$Plans", "canBe", "(ILGrownTown$Board;)Z"⟩ prog_7_method_9_code 8 (some .boolean)) from rfl)
set_option maxRecDepth 100000 in
theorem z_c81 : zcw 81 ∈ lw_tbl := List.mem_of_getElem? (i := 1487) (show lw_tbl[1487]? = some (.code ⟨"GrownTown$Plans", "plotOf", "(I)I"⟩ prog_7_method_4_code 2 (some .int)) from rfl)
set_option maxRecDepth 100000 in
theorem z_c82 : zcw 82 ∈ lw_tbl := List.mem_of_getElem? (i := 1493) (show lw_tbl[1493]? = some (.code ⟨"GrownTown$Plans", "sumAfter", "(ILGrownTown$Town;)I"⟩ prog_7_method_10_code 5 (some .int)) from rfl)
set_option maxRecDepth 100000 in
theorem z_c83 : zcw 83 ∈ lw_tbl := List.mem_of_getElem? (i := 1497) (show lw_tbl[1497]? = some (.code ⟨"GrownTown$Plans", "kindOf", "(I)I"⟩ prog_7_method_5_code 2 (some .int)) from rfl)
set_option maxRecDepth 100000 in
theorem z_c84 : zcw 84 ∈ lw_tbl := List.mem_of_getElem? (i := 1500) (show lw_tbl[1500]? = some (.code ⟨"GrownTown$Plans", "put", "(LGrownTown$Board;II)V"⟩ prog_7_method_11_code 3 (none)) from rfl)
set_option maxRecDepth 100000 in
theorem z_c85 : zcw 85 ∈ lw_tbl := List.mem_of_getElem? (i := 1505) (show lw_tbl[1505]? = some (.code ⟨"GrownTown$Plans", "takeBack", "(LGrownTown$Board;I)V"⟩ prog_7_method_12_code 2 (none)) from rfl)
set_option maxRecDepth 100000 in
theorem z_c86 : zcw 86 ∈ lw_tbl := List.mem_of_getElem? (i := 259) (show lw_tbl[259]? = some (.code ⟨"GrownTown$Seekers", "<init>", "()V"⟩ prog_8_method_1_code 1 (none)) from rfl)
set_option maxRecDepth 100000 in
theorem z_c87 : zcw 87 ∈ lw_tbl := List.mem_of_getElem? (i := 713) (show lw_tbl[713]? = some (.code ⟨"GrownTown$Seekers", "ownerOf", "(I)I"⟩ prog_8_method_8_code 3 (some .int)) from rfl)
set_option maxRecDepth 100000 in
theorem z_c88 : zcw 88 ∈ lw_tbl := List.mem_of_getElem? (i := 717) (show lw_tbl[717]? = some (.code ⟨"GrownTown$Seekers", "plotOf", "(I)I"⟩ prog_8_method_7_code 2 (some .int)) from rfl)
set_option maxRecDepth 100000 in
theorem z_c89 : zcw 89 ∈ lw_tbl := List.mem_of_getElem? (i := 721) (show lw_tbl[721]? = some (.code ⟨"GrownTown$Seekers", "has", "(I)Z"⟩ prog_8_method_2_code 2 (some .boolean)) from rfl)
set_option maxRecDepth 100000 in
theorem z_c90 : zcw 90 ∈ lw_tbl := List.mem_of_getElem? (i := 725) (show lw_tbl[725]? = some (.code ⟨"GrownTown$Seekers", "leave", "(I)V"⟩ prog_8_method_11_code 2 (none)) from rfl)
set_option maxRecDepth 100000 in
theorem z_c91 : zcw 91 ∈ lw_tbl := List.mem_of_getElem? (i := 1033) (show lw_tbl[1033]? = some (.code ⟨"GrownTown$Seekers", "areFull", "()Z"⟩ prog_8_method_3_code 1 (some .boolean)) from rfl)
set_option maxRecDepth 100000 in
theorem z_c92 : zcw 92 ∈ lw_tbl := List.mem_of_getElem? (i := 1041) (show lw_tbl[1041]? = some (.code ⟨"GrownTown$Seekers", "add", "(IIII)I"⟩ prog_8_method_4_code 6 (some .int)) from rfl)
set_option maxRecDepth 100000 in
theorem z_c93 : zcw 93 ∈ lw_tbl := List.mem_of_getElem? (i := 1051) (show lw_tbl[1051]? = some (.code ⟨"GrownTown$Seekers", "tell", "(II)I"⟩ prog_8_method_5_code 3 (some .int)) from rfl)
set_option maxRecDepth 100000 in
theorem z_c94 : zcw 94 ∈ lw_tbl := List.mem_of_getElem? (i := 1059) (show lw_tbl[1059]? = some (.code ⟨"GrownTown$Seekers", "waits", "(II)Z"⟩ prog_8_method_10_code 3 (some .boolean)) from rfl)
set_option maxRecDepth 100000 in
theorem z_c95 : zcw 95 ∈ lw_tbl := List.mem_of_getElem? (i := 1067) (show lw_tbl[1067]? = some (.code ⟨"GrownTown$Seekers", "want", "(II)Z"⟩ prog_8_method_13_code 4 (some .boolean)) from rfl)
set_option maxRecDepth 100000 in
theorem z_c96 : zcw 96 ∈ lw_tbl := List.mem_of_getElem? (i := 1075) (show lw_tbl[1075]? = some (.code ⟨"GrownTown$Seekers", "see", "(IIIIZ)V"⟩ prog_8_method_14_code 6 (none)) from rfl)
set_option maxRecDepth 100000 in
theorem z_c97 : zcw 97 ∈ lw_tbl := List.mem_of_getElem? (i := 1081) (show lw_tbl[1081]? = some (.code ⟨"GrownTown$Seekers", "settle", "(II)V"⟩ prog_8_method_15_code 6 (none)) from rfl)
set_option maxRecDepth 100000 in
theorem z_c98 : zcw 98 ∈ lw_tbl := List.mem_of_getElem? (i := 1087) (show lw_tbl[1087]? = some (.code ⟨"GrownTown$Seekers", "heldBy", "(I)I"⟩ prog_8_method_9_code 2 (some .int)) from rfl)
set_option maxRecDepth 100000 in
theorem z_c99 : zcw 99 ∈ lw_tbl := List.mem_of_getElem? (i := 1091) (show lw_tbl[1091]? = some (.code ⟨"GrownTown$Seekers", "ask", "(II)Z"⟩ prog_8_method_16_code 5 (some .boolean)) from rfl)
set_option maxRecDepth 100000 in
theorem z_c100 : zcw 100 ∈ lw_tbl := List.mem_of_getElem? (i := 1095) (show lw_tbl[1095]? = some (.code ⟨"GrownTown$Seekers", "bestPlot", "(II)I"⟩ prog_8_method_19_code 9 (some .int)) from rfl)
set_option maxRecDepth 100000 in
theorem z_c101 : zcw 101 ∈ lw_tbl := List.mem_of_getElem? (i := 1099) (show lw_tbl[1099]? = some (.code ⟨"GrownTown$Seekers", "valueOf", "(II)I"⟩ prog_8_method_18_code 3 (some .int)) from rfl)
set_option maxRecDepth 100000 in
theorem z_c102 : zcw 102 ∈ lw_tbl := List.mem_of_getElem? (i := 1106) (show lw_tbl[1106]? = some (.code ⟨"GrownTown$Seekers", "outbids", "(II)Z"⟩ prog_8_method_17_code 3 (some .boolean)) from rfl)
set_option maxRecDepth 100000 in
theorem z_c103 : zcw 103 ∈ lw_tbl := List.mem_of_getElem? (i := 1127) (show lw_tbl[1127]? = some (.code ⟨"GrownTown$Seekers", "own", "(II)V"⟩ prog_8_method_12_code 3 (none)) from rfl)
set_option maxRecDepth 100000 in
theorem z_c104 : zcw 104 ∈ lw_tbl := List.mem_of_getElem? (i := 1131) (show lw_tbl[1131]? = some (.code ⟨"GrownTown$Seekers", "useOf", "(I)I"⟩ prog_8_method_6_code 2 (some .int)) from rfl)
set_option maxRecDepth 100000 in
theorem z_c105 : zcw 105 ∈ lw_tbl := List.mem_of_getElem? (i := 576) (show lw_tbl[576]? = some (.code ⟨"GrownTown$Sheets", "<init>", "()V"⟩ prog_9_method_1_code 1 (none)) from rfl)
set_option maxRecDepth 100000 in
theorem z_c106 : zcw 106 ∈ lw_tbl := List.mem_of_getElem? (i := 1543) (show lw_tbl[1543]? = some (.code ⟨"GrownTown$Sheets", "make", "(III)V"⟩ prog_9_method_5_code 5 (none)) from rfl)
set_option maxRecDepth 100000 in
theorem z_c107 : zcw 107 ∈ lw_tbl := List.mem_of_getElem? (i := 1552) (show lw_tbl[1552]? = some (.code ⟨"GrownTown$Sheets", "isNothing", "(I)Z"⟩ prog_9_method_3_code 2 (some .boolean)) from rfl)
set_option maxRecDepth 100000 in
theorem z_c108 : zcw 108 ∈ lw_tbl := List.mem_of_getElem? (i := 1556) (show lw_tbl[1556]? = some (.code ⟨"GrownTown$Sheets", "sizeOf", "(I)I"⟩ prog_9_method_2_code 2 (some .int)) from rfl)
set_option maxRecDepth 100000 in
theorem z_c109 : zcw 109 ∈ lw_tbl := List.mem_of_getElem? (i := 1560) (show lw_tbl[1560]? = some (.code ⟨"GrownTown$Sheets", "hasCell", "(II)Z"⟩ prog_9_method_6_code 3 (some .boolean)) from rfl)
set_option maxRecDepth 100000 in
theorem z_c110 : zcw 110 ∈ lw_tbl := List.mem_of_getElem? (i := 1564) (show lw_tbl[1564]? = some (.code ⟨"GrownTown$Sheets", "put", "(III)V"⟩ prog_9_method_8_code 4 (none)) from rfl)
set_option maxRecDepth 100000 in
theorem z_c111 : zcw 111 ∈ lw_tbl := List.mem_of_getElem? (i := 1569) (show lw_tbl[1569]? = some (.code ⟨"GrownTown$Sheets", "laneOf", "(I)I"⟩ prog_9_method_4_code 2 (some .int)) from rfl)
set_option maxRecDepth 100000 in
theorem z_c112 : zcw 112 ∈ lw_tbl := List.mem_of_getElem? (i := 1582) (show lw_tbl[1582]? = some (.code ⟨"GrownTown$Sheets", "cell", "(II)I"⟩ prog_9_method_7_code 3 (some .int)) from rfl)
set_option maxRecDepth 100000 in
theorem z_c113 : zcw 113 ∈ lw_tbl := List.mem_of_getElem? (i := 160) (show lw_tbl[160]? = some (.code ⟨"GrownTown$Town", "<init>", "()V"⟩ prog_10_method_1_code 1 (none)) from rfl)
set_option maxRecDepth 100000 in
theorem z_c114 : zcw 114 ∈ lw_tbl := List.mem_of_getElem? (i := 628) (show lw_tbl[628]? = some (.code ⟨"GrownTown$Town", "begin", "(II)V"⟩ prog_10_method_2_code 3 (none)) from rfl)
set_option maxRecDepth 100000 in
theorem z_c115 : zcw 115 ∈ lw_tbl := List.mem_of_getElem? (i := 654) (show lw_tbl[654]? = some (.code ⟨"GrownTown$Town", "canGround", "(I)Z"⟩ prog_10_method_3_code 2 (some .boolean)) from rfl)
set_option maxRecDepth 100000 in
theorem z_c116 : zcw 116 ∈ lw_tbl := List.mem_of_getElem? (i := 701) (show lw_tbl[701]? = some (.code ⟨"GrownTown$Town", "canUse", "(II)Z"⟩ prog_10_method_4_code 3 (some .boolean)) from rfl)
set_option maxRecDepth 100000 in
theorem z_c117 : zcw 117 ∈ lw_tbl := List.mem_of_getElem? (i := 709) (show lw_tbl[709]? = some (.code ⟨"GrownTown$Town", "putUse", "(II)I"⟩ prog_10_method_5_code 3 (some .int)) from rfl)
set_option maxRecDepth 100000 in
theorem z_c118 : zcw 118 ∈ lw_tbl := List.mem_of_getElem? (i := 978) (show lw_tbl[978]? = some (.code ⟨"GrownTown$Town", "worthOf", "(II)I"⟩ prog_10_method_7_code 5 (some .int)) from rfl)
set_option maxRecDepth 100000 in
theorem z_c119 : zcw 119 ∈ lw_tbl := List.mem_of_getElem? (i := 982) (show lw_tbl[982]? = some (.code ⟨"GrownTown$Town", "adds", "(III)I"⟩ prog_10_method_6_code 6 (some .int)) from rfl)
set_option maxRecDepth 100000 in
theorem z_c120 : zcw 120 ∈ lw_tbl := List.mem_of_getElem? (i := 1006) (show lw_tbl[1006]? = some (.code ⟨"GrownTown$Town", "mayBecome", "(II)Z"⟩ prog_10_method_9_code 4 (some .boolean)) from rfl)
set_option maxRecDepth 100000 in
theorem z_c121 : zcw 121 ∈ lw_tbl := List.mem_of_getElem? (i := 1063) (show lw_tbl[1063]? = some (.code ⟨"GrownTown$Town", "showPlots", "()V"⟩ prog_10_method_10_code 3 (none)) from rfl)
set_option maxRecDepth 100000 in
theorem z_c122 : zcw 122 ∈ lw_tbl := List.mem_of_getElem? (i := 1115) (show lw_tbl[1115]? = some (.code ⟨"GrownTown$Town", "grow", "()I"⟩ prog_10_method_11_code 5 (some .int)) from rfl)
set_option maxRecDepth 100000 in
theorem z_c123 : zcw 123 ∈ lw_tbl := List.mem_of_getElem? (i := 1122) (show lw_tbl[1122]? = some (.code ⟨"GrownTown$Town", "settleIn", "()I"⟩ prog_10_method_12_code 4 (some .int)) from rfl)
set_option maxRecDepth 100000 in
theorem z_c124 : zcw 124 ∈ lw_tbl := List.mem_of_getElem? (i := 1135) (show lw_tbl[1135]? = some (.code ⟨"GrownTown$Town", "takeTaxes", "()I"⟩ prog_10_method_13_code 6 (some .int)) from rfl)
set_option maxRecDepth 100000 in
theorem z_c125 : zcw 125 ∈ lw_tbl := List.mem_of_getElem? (i := 1146) (show lw_tbl[1146]? = some (.code ⟨"GrownTown$Town", "sendAway", "()I"⟩ prog_10_method_14_code 5 (some .int)) from rfl)
set_option maxRecDepth 100000 in
theorem z_c126 : zcw 126 ∈ lw_tbl := List.mem_of_getElem? (i := 1150) (show lw_tbl[1150]? = some (.code ⟨"GrownTown$Town", "putFigure", "(II)V"⟩ prog_10_method_15_code 3 (none)) from rfl)
set_option maxRecDepth 100000 in
theorem z_c127 : zcw 127 ∈ lw_tbl := List.mem_of_getElem? (i := 1163) (show lw_tbl[1163]? = some (.code ⟨"GrownTown$Town", "remembers", "(I)Z"⟩ prog_10_method_16_code 2 (some .boolean)) from rfl)
set_option maxRecDepth 100000 in
theorem z_c128 : zcw 128 ∈ lw_tbl := List.mem_of_getElem? (i := 1167) (show lw_tbl[1167]? = some (.code ⟨"GrownTown$Town", "usedIn", "(II)I"⟩ prog_10_method_17_code 3 (some .int)) from rfl)
set_option maxRecDepth 100000 in
theorem z_c129 : zcw 129 ∈ lw_tbl := List.mem_of_getElem? (i := 1177) (show lw_tbl[1177]? = some (.code ⟨"GrownTown$Town", "figure", "(II)I"⟩ prog_10_method_18_code 3 (some .int)) from rfl)
set_option maxRecDepth 100000 in
theorem z_c130 : zcw 130 ∈ lw_tbl := List.mem_of_getElem? (i := 1461) (show lw_tbl[1461]? = some (.code ⟨"GrownTown$Town", "sumOfWorths", "()I"⟩ prog_10_method_8_code 4 (some .int)) from rfl)
set_option maxRecDepth 100000 in
theorem z_c131 : zcw 131 ∈ lw_tbl := List.mem_of_getElem? (i := 472) (show lw_tbl[472]? = some (.code ⟨"GrownTown$Trips", "<init>", "(LGrownTown$Ways;)V"⟩ prog_11_method_1_code 2 (none)) from rfl)
set_option maxRecDepth 100000 in
theorem z_c132 : zcw 132 ∈ lw_tbl := List.mem_of_getElem? (i := 642) (show lw_tbl[642]? = some (.code ⟨"GrownTown$Trips", "forget", "()V"⟩ prog_11_method_2_code 1 (none)) from rfl)
set_option maxRecDepth 100000 in
theorem z_c133 : zcw 133 ∈ lw_tbl := List.mem_of_getElem? (i := 1357) (show lw_tbl[1357]? = some (.code ⟨"GrownTown$Trips", "add", "(II)I"⟩ prog_11_method_4_code 3 (some .int)) from rfl)
set_option maxRecDepth 100000 in
theorem z_c134 : zcw 134 ∈ lw_tbl := List.mem_of_getElem? (i := 1366) (show lw_tbl[1366]? = some (.code ⟨"GrownTown$Trips", "settle", "()V"⟩ prog_11_method_10_code 2 (none)) from rfl)
set_option maxRecDepth 100000 in
theorem z_c135 : zcw 135 ∈ lw_tbl := List.mem_of_getElem? (i := 1374) (show lw_tbl[1374]? = some (.code ⟨"GrownTown$Trips", "begin", "()V"⟩ prog_11_method_11_code 2 (none)) from rfl)
set_option maxRecDepth 100000 in
theorem z_c136 : zcw 136 ∈ lw_tbl := List.mem_of_getElem? (i := 1386) (show lw_tbl[1386]? = some (.code ⟨"GrownTown$Trips", "keepTraced", "(I)V"⟩ prog_11_method_12_code 3 (none)) from rfl)
set_option maxRecDepth 100000 in
theorem z_c137 : zcw 137 ∈ lw_tbl := List.mem_of_getElem? (i := 1390) (show lw_tbl[1390]? = some (.code ⟨"GrownTown$Trips", "has", "(I)Z"⟩ prog_11_method_3_code 2 (some .boolean)) from rfl)
set_option maxRecDepth 100000 in
theorem z_c138 : zcw 138 ∈ lw_tbl := List.mem_of_getElem? (i := 1396) (show lw_tbl[1396]? = some (.code ⟨"GrownTown$Trips", "addCrowd", "(II)V"⟩ prog_11_method_13_code 4 (none)) from rfl)
set_option maxRecDepth 100000 in
theorem z_c139 : zcw 139 ∈ lw_tbl := List.mem_of_getElem? (i := 1400) (show lw_tbl[1400]? = some (.code ⟨"GrownTown$Trips", "goesThrough", "(I)I"⟩ prog_11_method_7_code 2 (some .int)) from rfl)
set_option maxRecDepth 100000 in
theorem z_c140 : zcw 140 ∈ lw_tbl := List.mem_of_getElem? (i := 1404) (show lw_tbl[1404]? = some (.code ⟨"GrownTown$Trips", "plotAt", "(II)I"⟩ prog_11_method_9_code 3 (some .int)) from rfl)
set_option maxRecDepth 100000 in
theorem z_c141 : zcw 141 ∈ lw_tbl := List.mem_of_getElem? (i := 1416) (show lw_tbl[1416]? = some (.code ⟨"GrownTown$Trips", "goRound", "()Z"⟩ prog_11_method_15_code 3 (some .boolean)) from rfl)
set_option maxRecDepth 100000 in
theorem z_c142 : zcw 142 ∈ lw_tbl := List.mem_of_getElem? (i := 1420) (show lw_tbl[1420]? = some (.code ⟨"GrownTown$Trips", "isOut", "(I)Z"⟩ prog_11_method_5_code 2 (some .boolean)) from rfl)
set_option maxRecDepth 100000 in
theorem z_c143 : zcw 143 ∈ lw_tbl := List.mem_of_getElem? (i := 1424) (show lw_tbl[1424]? = some (.code ⟨"GrownTown$Trips", "timeOfWay", "(I)I"⟩ prog_11_method_14_code 4 (some .int)) from rfl)
set_option maxRecDepth 100000 in
theorem z_c144 : zcw 144 ∈ lw_tbl := List.mem_of_getElem? (i := 1437) (show lw_tbl[1437]? = some (.code ⟨"GrownTown$Trips", "takes", "(I)I"⟩ prog_11_method_6_code 2 (some .int)) from rfl)
set_option maxRecDepth 100000 in
theorem z_c145 : zcw 145 ∈ lw_tbl := List.mem_of_getElem? (i := 1442) (show lw_tbl[1442]? = some (.code ⟨"GrownTown$Trips", "takesAlone", "(I)I"⟩ prog_11_method_8_code 2 (some .int)) from rfl)
set_option maxRecDepth 100000 in
theorem z_c146 : zcw 146 ∈ lw_tbl := List.mem_of_getElem? (i := 417) (show lw_tbl[417]? = some (.code ⟨"GrownTown$Ways", "<init>", "(LGrownTown$Board;)V"⟩ prog_12_method_1_code 2 (none)) from rfl)
set_option maxRecDepth 100000 in
theorem z_c147 : zcw 147 ∈ lw_tbl := List.mem_of_getElem? (i := 637) (show lw_tbl[637]? = some (.code ⟨"GrownTown$Ways", "forgetTrams", "()V"⟩ prog_12_method_3_code 1 (none)) from rfl)
set_option maxRecDepth 100000 in
theorem z_c148 : zcw 148 ∈ lw_tbl := List.mem_of_getElem? (i := 1227) (show lw_tbl[1227]? = some (.code ⟨"GrownTown$Ways", "addTram", "(II)I"⟩ prog_12_method_4_code 4 (some .int)) from rfl)
set_option maxRecDepth 100000 in
theorem z_c149 : zcw 149 ∈ lw_tbl := List.mem_of_getElem? (i := 1232) (show lw_tbl[1232]? = some (.code ⟨"GrownTown$Ways", "addStop", "(II)I"⟩ prog_12_method_5_code 4 (some .int)) from rfl)
set_option maxRecDepth 100000 in
theorem z_c150 : zcw 150 ∈ lw_tbl := List.mem_of_getElem? (i := 1236) (show lw_tbl[1236]? = some (.code ⟨"GrownTown$Ways", "stopsOf", "(I)I"⟩ prog_12_method_6_code 2 (some .int)) from rfl)
set_option maxRecDepth 100000 in
theorem z_c151 : zcw 151 ∈ lw_tbl := List.mem_of_getElem? (i := 1244) (show lw_tbl[1244]? = some (.code ⟨"GrownTown$Ways", "lastStop", "(I)I"⟩ prog_12_method_7_code 3 (some .int)) from rfl)
set_option maxRecDepth 100000 in
theorem z_c152 : zcw 152 ∈ lw_tbl := List.mem_of_getElem? (i := 1248) (show lw_tbl[1248]? = some (.code ⟨"GrownTown$Ways", "stopPlot", "(I)I"⟩ prog_12_method_8_code 2 (some .int)) from rfl)
set_option maxRecDepth 100000 in
theorem z_c153 : zcw 153 ∈ lw_tbl := List.mem_of_getElem? (i := 1258) (show lw_tbl[1258]? = some (.code ⟨"GrownTown$Ways", "measure", "(IZ)V"⟩ prog_12_method_18_code 5 (none)) from rfl)
set_option maxRecDepth 100000 in
theorem z_c154 : zcw 154 ∈ lw_tbl := List.mem_of_getElem? (i := 1262) (show lw_tbl[1262]? = some (.code ⟨"GrownTown$Ways", "layOut", "()V"⟩ prog_12_method_10_code 5 (none)) from rfl)
set_option maxRecDepth 100000 in
theorem z_c155 : zcw 155 ∈ lw_tbl := List.mem_of_getElem? (i := 1271) (show lw_tbl[1271]? = some (.code ⟨"GrownTown$Ways", "bareStep", "(II)I"⟩ prog_12_method_11_code 4 (some .int)) from rfl)
set_option maxRecDepth 100000 in
theorem z_c156 : zcw 156 ∈ lw_tbl := List.mem_of_getElem? (i := 1278) (show lw_tbl[1278]? = some (.code ⟨"GrownTown$Ways", "nearest", "()I"⟩ prog_12_method_19_code 5 (some .int)) from rfl)
set_option maxRecDepth 100000 in
theorem z_c157 : zcw 157 ∈ lw_tbl := List.mem_of_getElem? (i := 1282) (show lw_tbl[1282]? = some (.code ⟨"GrownTown$Ways", "reachPlot", "(I)V"⟩ prog_12_method_21_code 4 (none)) from rfl)
set_option maxRecDepth 100000 in
theorem z_c158 : zcw 158 ∈ lw_tbl := List.mem_of_getElem? (i := 1286) (show lw_tbl[1286]? = some (.code ⟨"GrownTown$Ways", "timeFrom", "(I)I"⟩ prog_12_method_23_code 2 (some .int)) from rfl)
set_option maxRecDepth 100000 in
theorem z_c159 : zcw 159 ∈ lw_tbl := List.mem_of_getElem? (i := 1290) (show lw_tbl[1290]? = some (.code ⟨"GrownTown$Ways", "stepEnd", "(II)I"⟩ prog_12_method_12_code 3 (some .int)) from rfl)
set_option maxRecDepth 100000 in
theorem z_c160 : zcw 160 ∈ lw_tbl := List.mem_of_getElem? (i := 1294) (show lw_tbl[1294]? = some (.code ⟨"GrownTown$Ways", "stepTime", "(II)I"⟩ prog_12_method_13_code 4 (some .int)) from rfl)
set_option maxRecDepth 100000 in
theorem z_c161 : zcw 161 ∈ lw_tbl := List.mem_of_getElem? (i := 1298) (show lw_tbl[1298]? = some (.code ⟨"GrownTown$Ways", "shorten", "(II)V"⟩ prog_12_method_20_code 3 (none)) from rfl)
set_option maxRecDepth 100000 in
theorem z_c162 : zcw 162 ∈ lw_tbl := List.mem_of_getElem? (i := 1302) (show lw_tbl[1302]? = some (.code ⟨"GrownTown$Ways", "reachAboard", "(I)V"⟩ prog_12_method_22_code 6 (none)) from rfl)
set_option maxRecDepth 100000 in
theorem z_c163 : zcw 163 ∈ lw_tbl := List.mem_of_getElem? (i := 1306) (show lw_tbl[1306]? = some (.code ⟨"GrownTown$Ways", "nextStop", "(II)I"⟩ prog_12_method_9_code 4 (some .int)) from rfl)
set_option maxRecDepth 100000 in
theorem z_c164 : zcw 164 ∈ lw_tbl := List.mem_of_getElem? (i := 1310) (show lw_tbl[1310]? = some (.code ⟨"GrownTown$Ways", "reaches", "(I)Z"⟩ prog_12_method_24_code 2 (some .boolean)) from rfl)
set_option maxRecDepth 100000 in
theorem z_c165 : zcw 165 ∈ lw_tbl := List.mem_of_getElem? (i := 1319) (show lw_tbl[1319]? = some (.code ⟨"GrownTown$Ways", "trace", "(I)V"⟩ prog_12_method_25_code 5 (none)) from rfl)
set_option maxRecDepth 100000 in
theorem z_c166 : zcw 166 ∈ lw_tbl := List.mem_of_getElem? (i := 1324) (show lw_tbl[1324]? = some (.code ⟨"GrownTown$Ways", "changeAt", "(I)V"⟩ prog_12_method_28_code 3 (none)) from rfl)
set_option maxRecDepth 100000 in
theorem z_c167 : zcw 167 ∈ lw_tbl := List.mem_of_getElem? (i := 1328) (show lw_tbl[1328]? = some (.code ⟨"GrownTown$Ways", "isAboard", "(I)Z"⟩ prog_12_method_27_code 2 (some .boolean)) from rfl)
set_option maxRecDepth 100000 in
theorem z_c168 : zcw 168 ∈ lw_tbl := List.mem_of_getElem? (i := 1332) (show lw_tbl[1332]? = some (.code ⟨"GrownTown$Ways", "nextPlot", "(I)I"⟩ prog_12_method_31_code 4 (some .int)) from rfl)
set_option maxRecDepth 100000 in
theorem z_c169 : zcw 169 ∈ lw_tbl := List.mem_of_getElem? (i := 1336) (show lw_tbl[1336]? = some (.code ⟨"GrownTown$Ways", "isStepOn", "(II)Z"⟩ prog_12_method_29_code 4 (some .boolean)) from rfl)
set_option maxRecDepth 100000 in
theorem z_c170 : zcw 170 ∈ lw_tbl := List.mem_of_getElem? (i := 1341) (show lw_tbl[1341]? = some (.code ⟨"GrownTown$Ways", "isRideOn", "(II)Z"⟩ prog_12_method_30_code 4 (some .boolean)) from rfl)
set_option maxRecDepth 100000 in
theorem z_c171 : zcw 171 ∈ lw_tbl := List.mem_of_getElem? (i := 1345) (show lw_tbl[1345]? = some (.code ⟨"GrownTown$Ways", "goOn", "(II)V"⟩ prog_12_method_32_code 6 (none)) from rfl)
set_option maxRecDepth 100000 in
theorem z_c172 : zcw 172 ∈ lw_tbl := List.mem_of_getElem? (i := 1349) (show lw_tbl[1349]? = some (.code ⟨"GrownTown$Ways", "plotAt", "(I)I"⟩ prog_12_method_26_code 2 (some .int)) from rfl)
set_option maxRecDepth 100000 in
theorem z_c173 : zcw 173 ∈ lw_tbl := List.mem_of_getElem? (i := 1370) (show lw_tbl[1370]? = some (.code ⟨"GrownTown$Ways", "changes", "()I"⟩ prog_12_method_2_code 1 (some .int)) from rfl)
set_option maxRecDepth 100000 in
theorem z_c174 : zcw 174 ∈ lw_tbl := List.mem_of_getElem? (i := 1378) (show lw_tbl[1378]? = some (.code ⟨"GrownTown$Ways", "forgetCrowd", "()V"⟩ prog_12_method_16_code 1 (none)) from rfl)
set_option maxRecDepth 100000 in
theorem z_c175 : zcw 175 ∈ lw_tbl := List.mem_of_getElem? (i := 1408) (show lw_tbl[1408]? = some (.code ⟨"GrownTown$Ways", "addCrowd", "(III)V"⟩ prog_12_method_17_code 6 (none)) from rfl)
set_option maxRecDepth 100000 in
theorem z_c176 : zcw 176 ∈ lw_tbl := List.mem_of_getElem? (i := 1412) (show lw_tbl[1412]? = some (.code ⟨"GrownTown$Ways", "sideTo", "(II)I"⟩ prog_12_method_14_code 4 (some .int)) from rfl)
set_option maxRecDepth 100000 in
theorem z_c177 : zcw 177 ∈ lw_tbl := List.mem_of_getElem? (i := 1428) (show lw_tbl[1428]? = some (.code ⟨"GrownTown$Ways", "timeBeside", "(II)I"⟩ prog_12_method_15_code 3 (some .int)) from rfl)
set_option maxRecDepth 100000 in
theorem z_c178 : zcw 178 ∈ lw_tbl := List.mem_of_getElem? (i := 152) (show lw_tbl[152]? = some (.code ⟨"GrownTown", "<init>", "()V"⟩ prog_1_method_1_code 1 (none)) from rfl)
set_option maxRecDepth 100000 in
theorem z_c179 : zcw 179 ∈ lw_tbl := List.mem_of_getElem? (i := 174) (show lw_tbl[174]? = some (.code ⟨"GrownTown", "within", "(III)Z"⟩ prog_1_method_39_code 3 (some .boolean)) from rfl)
set_option maxRecDepth 100000 in
theorem z_c180 : zcw 180 ∈ lw_tbl := List.mem_of_getElem? (i := 202) (show lw_tbl[202]? = some (.code ⟨"GrownTown", "bit", "(I)J"⟩ prog_1_method_40_code 1 (some .long)) from rfl)
set_option maxRecDepth 100000 in
theorem z_c181 : zcw 181 ∈ lw_tbl := List.mem_of_getElem? (i := 623) (show lw_tbl[623]? = some (.code ⟨"GrownTown", "board", "(II)I"⟩ prog_1_method_2_code 3 (some .int)) from rfl)
set_option maxRecDepth 100000 in
theorem z_c182 : zcw 182 ∈ lw_tbl := List.mem_of_getElem? (i := 646) (show lw_tbl[646]? = some (.code ⟨"GrownTown", "ground", "(II)I"⟩ prog_1_method_3_code 3 (some .int)) from rfl)
set_option maxRecDepth 100000 in
theorem z_c183 : zcw 183 ∈ lw_tbl := List.mem_of_getElem? (i := 689) (show lw_tbl[689]? = some (.code ⟨"GrownTown", "height", "(II)I"⟩ prog_1_method_4_code 3 (some .int)) from rfl)
set_option maxRecDepth 100000 in
theorem z_c184 : zcw 184 ∈ lw_tbl := List.mem_of_getElem? (i := 697) (show lw_tbl[697]? = some (.code ⟨"GrownTown", "use", "(II)I"⟩ prog_1_method_5_code 3 (some .int)) from rfl)
set_option maxRecDepth 100000 in
theorem z_c185 : zcw 185 ∈ lw_tbl := List.mem_of_getElem? (i := 733) (show lw_tbl[733]? = some (.code ⟨"GrownTown", "plot", "(II)I"⟩ prog_1_method_6_code 3 (some .int)) from rfl)
set_option maxRecDepth 100000 in
theorem z_c186 : zcw 186 ∈ lw_tbl := List.mem_of_getElem? (i := 744) (show lw_tbl[744]? = some (.code ⟨"GrownTown", "feed", "(J)I"⟩ prog_1_method_7_code 3 (some .int)) from rfl)
set_option maxRecDepth 100000 in
theorem z_c187 : zcw 187 ∈ lw_tbl := List.mem_of_getElem? (i := 752) (show lw_tbl[752]? = some (.code ⟨"GrownTown", "end", "(I)I"⟩ prog_1_method_8_code 3 (some .int)) from rfl)
set_option maxRecDepth 100000 in
theorem z_c188 : zcw 188 ∈ lw_tbl := List.mem_of_getElem? (i := 756) (show lw_tbl[756]? = some (.code ⟨"GrownTown", "laws", "()I"⟩ prog_1_method_9_code 2 (some .int)) from rfl)
set_option maxRecDepth 100000 in
theorem z_c189 : zcw 189 ∈ lw_tbl := List.mem_of_getElem? (i := 955) (show lw_tbl[955]? = some (.code ⟨"GrownTown", "fault", "()I"⟩ prog_1_method_10_code 1 (some .int)) from rfl)
set_option maxRecDepth 100000 in
theorem z_c190 : zcw 190 ∈ lw_tbl := List.mem_of_getElem? (i := 959) (show lw_tbl[959]? = some (.code ⟨"GrownTown", "law", "(II)I"⟩ prog_1_method_11_code 3 (some .int)) from rfl)
set_option maxRecDepth 100000 in
theorem z_c191 : zcw 191 ∈ lw_tbl := List.mem_of_getElem? (i := 973) (show lw_tbl[973]? = some (.code ⟨"GrownTown", "worth", "(II)I"⟩ prog_1_method_12_code 3 (some .int)) from rfl)
set_option maxRecDepth 100000 in
theorem z_c192 : zcw 192 ∈ lw_tbl := List.mem_of_getElem? (i := 997) (show lw_tbl[997]? = some (.code ⟨"GrownTown", "cause", "(III)I"⟩ prog_1_method_13_code 4 (some .int)) from rfl)
set_option maxRecDepth 100000 in
theorem z_c193 : zcw 193 ∈ lw_tbl := List.mem_of_getElem? (i := 1002) (show lw_tbl[1002]? = some (.code ⟨"GrownTown", "may", "(II)I"⟩ prog_1_method_14_code 3 (some .int)) from rfl)
set_option maxRecDepth 100000 in
theorem z_c194 : zcw 194 ∈ lw_tbl := List.mem_of_getElem? (i := 1029) (show lw_tbl[1029]? = some (.code ⟨"GrownTown", "seeker", "(IIII)I"⟩ prog_1_method_15_code 5 (some .int)) from rfl)
set_option maxRecDepth 100000 in
theorem z_c195 : zcw 195 ∈ lw_tbl := List.mem_of_getElem? (i := 1046) (show lw_tbl[1046]? = some (.code ⟨"GrownTown", "told", "(II)I"⟩ prog_1_method_16_code 3 (some .int)) from rfl)
set_option maxRecDepth 100000 in
theorem z_c196 : zcw 196 ∈ lw_tbl := List.mem_of_getElem? (i := 1055) (show lw_tbl[1055]? = some (.code ⟨"GrownTown", "would", "(I)I"⟩ prog_1_method_17_code 2 (some .int)) from rfl)
set_option maxRecDepth 100000 in
theorem z_c197 : zcw 197 ∈ lw_tbl := List.mem_of_getElem? (i := 1111) (show lw_tbl[1111]? = some (.code ⟨"GrownTown", "year", "()I"⟩ prog_1_method_18_code 1 (some .int)) from rfl)
set_option maxRecDepth 100000 in
theorem z_c198 : zcw 198 ∈ lw_tbl := List.mem_of_getElem? (i := 1159) (show lw_tbl[1159]? = some (.code ⟨"GrownTown", "was", "(II)I"⟩ prog_1_method_19_code 3 (some .int)) from rfl)
set_option maxRecDepth 100000 in
theorem z_c199 : zcw 199 ∈ lw_tbl := List.mem_of_getElem? (i := 1173) (show lw_tbl[1173]? = some (.code ⟨"GrownTown", "went", "(II)I"⟩ prog_1_method_20_code 3 (some .int)) from rfl)
set_option maxRecDepth 100000 in
theorem z_c200 : zcw 200 ∈ lw_tbl := List.mem_of_getElem? (i := 1181) (show lw_tbl[1181]? = some (.code ⟨"GrownTown", "without", "(I)I"⟩ prog_1_method_21_code 3 (some .int)) from rfl)
set_option maxRecDepth 100000 in
theorem z_c201 : zcw 201 ∈ lw_tbl := List.mem_of_getElem? (i := 1185) (show lw_tbl[1185]? = some (.code ⟨"GrownTown", "growAnew", "(I)V"⟩ prog_1_method_42_code 4 (none)) from rfl)
set_option maxRecDepth 100000 in
theorem z_c202 : zcw 202 ∈ lw_tbl := List.mem_of_getElem? (i := 1211) (show lw_tbl[1211]? = some (.code ⟨"GrownTown", "differs", "(I)Z"⟩ prog_1_method_43_code 3 (some .boolean)) from rfl)
set_option maxRecDepth 100000 in
theorem z_c203 : zcw 203 ∈ lw_tbl := List.mem_of_getElem? (i := 1215) (show lw_tbl[1215]? = some (.code ⟨"GrownTown", "withoutMore", "(I)I"⟩ prog_1_method_22_code 3 (some .int)) from rfl)
set_option maxRecDepth 100000 in
theorem z_c204 : zcw 204 ∈ lw_tbl := List.mem_of_getElem? (i := 1219) (show lw_tbl[1219]? = some (.code ⟨"GrownTown", "tram", "(II)I"⟩ prog_1_method_23_code 3 (some .int)) from rfl)
set_option maxRecDepth 100000 in
theorem z_c205 : zcw 205 ∈ lw_tbl := List.mem_of_getElem? (i := 1223) (show lw_tbl[1223]? = some (.code ⟨"GrownTown", "canStop", "(I)Z"⟩ prog_1_method_41_code 2 (some .boolean)) from rfl)
set_option maxRecDepth 100000 in
theorem z_c206 : zcw 206 ∈ lw_tbl := List.mem_of_getElem? (i := 1240) (show lw_tbl[1240]? = some (.code ⟨"GrownTown", "stop", "(II)I"⟩ prog_1_method_24_code 3 (some .int)) from rfl)
set_option maxRecDepth 100000 in
theorem z_c207 : zcw 207 ∈ lw_tbl := List.mem_of_getElem? (i := 1254) (show lw_tbl[1254]? = some (.code ⟨"GrownTown", "time", "(II)I"⟩ prog_1_method_25_code 3 (some .int)) from rfl)
set_option maxRecDepth 100000 in
theorem z_c208 : zcw 208 ∈ lw_tbl := List.mem_of_getElem? (i := 1315) (show lw_tbl[1315]? = some (.code ⟨"GrownTown", "way", "(III)I"⟩ prog_1_method_26_code 4 (some .int)) from rfl)
set_option maxRecDepth 100000 in
theorem z_c209 : zcw 209 ∈ lw_tbl := List.mem_of_getElem? (i := 1353) (show lw_tbl[1353]? = some (.code ⟨"GrownTown", "trip", "(II)I"⟩ prog_1_method_27_code 3 (some .int)) from rfl)
set_option maxRecDepth 100000 in
theorem z_c210 : zcw 210 ∈ lw_tbl := List.mem_of_getElem? (i := 1362) (show lw_tbl[1362]? = some (.code ⟨"GrownTown", "balance", "()I"⟩ prog_1_method_28_code 1 (some .int)) from rfl)
set_option maxRecDepth 100000 in
theorem z_c211 : zcw 211 ∈ lw_tbl := List.mem_of_getElem? (i := 1432) (show lw_tbl[1432]? = some (.code ⟨"GrownTown", "trips", "(II)I"⟩ prog_1_method_29_code 3 (some .int)) from rfl)
set_option maxRecDepth 100000 in
theorem z_c212 : zcw 212 ∈ lw_tbl := List.mem_of_getElem? (i := 1447) (show lw_tbl[1447]? = some (.code ⟨"GrownTown", "plan", "(III)I"⟩ prog_1_method_30_code 4 (some .int)) from rfl)
set_option maxRecDepth 100000 in
theorem z_c213 : zcw 213 ∈ lw_tbl := List.mem_of_getElem? (i := 1457) (show lw_tbl[1457]? = some (.code ⟨"GrownTown", "chosen", "(II)I"⟩ prog_1_method_31_code 3 (some .int)) from rfl)
set_option maxRecDepth 100000 in
theorem z_c214 : zcw 214 ∈ lw_tbl := List.mem_of_getElem? (i := 1509) (show lw_tbl[1509]? = some (.code ⟨"GrownTown", "build", "(I)I"⟩ prog_1_method_32_code 4 (some .int)) from rfl)
set_option maxRecDepth 100000 in
theorem z_c215 : zcw 215 ∈ lw_tbl := List.mem_of_getElem? (i := 1517) (show lw_tbl[1517]? = some (.code ⟨"GrownTown", "note", "(III)I"⟩ prog_1_method_33_code 4 (some .int)) from rfl)
set_option maxRecDepth 100000 in
theorem z_c216 : zcw 216 ∈ lw_tbl := List.mem_of_getElem? (i := 1526) (show lw_tbl[1526]? = some (.code ⟨"GrownTown", "known", "(III)I"⟩ prog_1_method_34_code 5 (some .int)) from rfl)
set_option maxRecDepth 100000 in
theorem z_c217 : zcw 217 ∈ lw_tbl := List.mem_of_getElem? (i := 1539) (show lw_tbl[1539]? = some (.code ⟨"GrownTown", "sheet", "(III)I"⟩ prog_1_method_35_code 4 (some .int)) from rfl)
set_option maxRecDepth 100000 in
theorem z_c218 : zcw 218 ∈ lw_tbl := List.mem_of_getElem? (i := 1548) (show lw_tbl[1548]? = some (.code ⟨"GrownTown", "lay", "(III)I"⟩ prog_1_method_36_code 4 (some .int)) from rfl)
set_option maxRecDepth 100000 in
theorem z_c219 : zcw 219 ∈ lw_tbl := List.mem_of_getElem? (i := 1573) (show lw_tbl[1573]? = some (.code ⟨"GrownTown", "draw", "(III)I"⟩ prog_1_method_37_code 5 (some .int)) from rfl)
set_option maxRecDepth 100000 in
theorem z_c220 : zcw 220 ∈ lw_tbl := List.mem_of_getElem? (i := 1578) (show lw_tbl[1578]? = some (.code ⟨"GrownTown", "faultOfCells", "(II)I"⟩ prog_1_method_44_code 5 (some .int)) from rfl)
set_option maxRecDepth 100000 in
theorem z_c221 : zcw 221 ∈ lw_tbl := List.mem_of_getElem? (i := 1586) (show lw_tbl[1586]? = some (.code ⟨"GrownTown", "groundIsRefused", "(II)Z"⟩ prog_1_method_47_code 4 (some .boolean)) from rfl)
set_option maxRecDepth 100000 in
theorem z_c222 : zcw 222 ∈ lw_tbl := List.mem_of_getElem? (i := 1590) (show lw_tbl[1590]? = some (.code ⟨"GrownTown", "newGround", "(III)Z"⟩ prog_1_method_45_code 4 (some .boolean)) from rfl)
set_option maxRecDepth 100000 in
theorem z_c223 : zcw 223 ∈ lw_tbl := List.mem_of_getElem? (i := 1594) (show lw_tbl[1594]? = some (.code ⟨"GrownTown", "actsToDraw", "(II)I"⟩ prog_1_method_48_code 5 (some .int)) from rfl)
set_option maxRecDepth 100000 in
theorem z_c224 : zcw 224 ∈ lw_tbl := List.mem_of_getElem? (i := 1598) (show lw_tbl[1598]? = some (.code ⟨"GrownTown", "newHeight", "(III)Z"⟩ prog_1_method_46_code 4 (some .boolean)) from rfl)
set_option maxRecDepth 100000 in
theorem z_c225 : zcw 225 ∈ lw_tbl := List.mem_of_getElem? (i := 1602) (show lw_tbl[1602]? = some (.code ⟨"GrownTown", "drawPlots", "(II)I"⟩ prog_1_method_49_code 7 (some .int)) from rfl)
set_option maxRecDepth 100000 in
theorem z_c226 : zcw 226 ∈ lw_tbl := List.mem_of_getElem? (i := 1607) (show lw_tbl[1607]? = some (.code ⟨"GrownTown", "count", "(I)I"⟩ prog_1_method_38_code 2 (some .int)) from rfl)
set_option maxRecDepth 100000 in
theorem z_c227 : zcw 227 ∈ lw_tbl := List.mem_of_getElem? (i := 1615) (show lw_tbl[1615]? = some (.code ⟨"GrownTownModel", "<init>", "()V"⟩ prog_14_method_1_code 1 (none)) from rfl)
set_option maxRecDepth 100000 in
theorem z_c228 : zcw 228 ∈ lw_tbl := List.mem_of_getElem? (i := 1859) (show lw_tbl[1859]? = some (.code ⟨"GrownTownModel", "board", "(II)I"⟩ prog_14_method_7_code 3 (some .int)) from rfl)
set_option maxRecDepth 100000 in
theorem z_c229 : zcw 229 ∈ lw_tbl := List.mem_of_getElem? (i := 1863) (show lw_tbl[1863]? = some (.code ⟨"GrownTownModel", "in", "(JJJ)Z"⟩ prog_14_method_3_code 6 (some .boolean)) from rfl)
set_option maxRecDepth 100000 in
theorem z_c230 : zcw 230 ∈ lw_tbl := List.mem_of_getElem? (i := 1867) (show lw_tbl[1867]? = some (.code ⟨"GrownTownModel", "clearTown", "()V"⟩ prog_14_method_6_code 2 (none)) from rfl)
set_option maxRecDepth 100000 in
theorem z_c231 : zcw 231 ∈ lw_tbl := List.mem_of_getElem? (i := 1871) (show lw_tbl[1871]? = some (.code ⟨"GrownTownModel", "ground", "(II)I"⟩ prog_14_method_9_code 4 (some .int)) from rfl)
set_option maxRecDepth 100000 in
theorem z_c232 : zcw 232 ∈ lw_tbl := List.mem_of_getElem? (i := 1875) (show lw_tbl[1875]? = some (.code ⟨"GrownTownModel", "isPlot", "(I)Z"⟩ prog_14_method_5_code 2 (some .boolean)) from rfl)
set_option maxRecDepth 100000 in
theorem z_c233 : zcw 233 ∈ lw_tbl := List.mem_of_getElem? (i := 1879) (show lw_tbl[1879]? = some (.code ⟨"GrownTownModel", "plots", "()I"⟩ prog_14_method_4_code 1 (some .int)) from rfl)
set_option maxRecDepth 100000 in
theorem z_c234 : zcw 234 ∈ lw_tbl := List.mem_of_getElem? (i := 1884) (show lw_tbl[1884]? = some (.code ⟨"GrownTownModel", "record", "(IIIII)V"⟩ prog_14_method_8_code 6 (none)) from rfl)
set_option maxRecDepth 100000 in
theorem z_c235 : zcw 235 ∈ lw_tbl := List.mem_of_getElem? (i := 1888) (show lw_tbl[1888]? = some (.code ⟨"GrownTownModel", "height", "(II)I"⟩ prog_14_method_10_code 4 (some .int)) from rfl)
set_option maxRecDepth 100000 in
theorem z_c236 : zcw 236 ∈ lw_tbl := List.mem_of_getElem? (i := 1893) (show lw_tbl[1893]? = some (.code ⟨"GrownTownModel", "use", "(II)I"⟩ prog_14_method_12_code 4 (some .int)) from rfl)
set_option maxRecDepth 100000 in
theorem z_c237 : zcw 237 ∈ lw_tbl := List.mem_of_getElem? (i := 1898) (show lw_tbl[1898]? = some (.code ⟨"GrownTownModel", "free", "(I)V"⟩ prog_14_method_11_code 3 (none)) from rfl)
set_option maxRecDepth 100000 in
theorem z_c238 : zcw 238 ∈ lw_tbl := List.mem_of_getElem? (i := 1902) (show lw_tbl[1902]? = some (.code ⟨"GrownTownModel", "plot", "(II)I"⟩ prog_14_method_13_code 3 (some .int)) from rfl)
set_option maxRecDepth 100000 in
theorem z_c239 : zcw 239 ∈ lw_tbl := List.mem_of_getElem? (i := 1906) (show lw_tbl[1906]? = some (.code ⟨"GrownTownModel", "feed", "(J)I"⟩ prog_14_method_14_code 4 (some .int)) from rfl)
set_option maxRecDepth 100000 in
theorem z_c240 : zcw 240 ∈ lw_tbl := List.mem_of_getElem? (i := 1910) (show lw_tbl[1910]? = some (.code ⟨"GrownTownModel", "end", "(I)I"⟩ prog_14_method_15_code 3 (some .int)) from rfl)
set_option maxRecDepth 100000 in
theorem z_c241 : zcw 241 ∈ lw_tbl := List.mem_of_getElem? (i := 1914) (show lw_tbl[1914]? = some (.code ⟨"GrownTownModel", "laws", "()I"⟩ prog_14_method_24_code 2 (some .int)) from rfl)
set_option maxRecDepth 100000 in
theorem z_c242 : zcw 242 ∈ lw_tbl := List.mem_of_getElem? (i := 1918) (show lw_tbl[1918]? = some (.code ⟨"GrownTownModel", "next", "()V"⟩ prog_14_method_19_code 3 (none)) from rfl)
set_option maxRecDepth 100000 in
theorem z_c243 : zcw 243 ∈ lw_tbl := List.mem_of_getElem? (i := 1922) (show lw_tbl[1922]? = some (.code ⟨"GrownTownModel", "byteAt", "(I)I"⟩ prog_14_method_16_code 2 (some .int)) from rfl)
set_option maxRecDepth 100000 in
theorem z_c244 : zcw 244 ∈ lw_tbl := List.mem_of_getElem? (i := 1928) (show lw_tbl[1928]? = some (.code ⟨"GrownTownModel", "nameAt", "(II)I"⟩ prog_14_method_18_code 6 (some .int)) from rfl)
set_option maxRecDepth 100000 in
theorem z_c245 : zcw 245 ∈ lw_tbl := List.mem_of_getElem? (i := 1932) (show lw_tbl[1932]? = some (.code ⟨"GrownTownModel", "fails", "(I)V"⟩ prog_14_method_17_code 2 (none)) from rfl)
set_option maxRecDepth 100000 in
theorem z_c246 : zcw 246 ∈ lw_tbl := List.mem_of_getElem? (i := 1938) (show lw_tbl[1938]? = some (.code ⟨"GrownTownModel", "oneLaw", "()V"⟩ prog_14_method_22_code 5 (none)) from rfl)
set_option maxRecDepth 100000 in
theorem z_c247 : zcw 247 ∈ lw_tbl := List.mem_of_getElem? (i := 1943) (show lw_tbl[1943]? = some (.code ⟨"GrownTownModel", "number", "(II)I"⟩ prog_14_method_20_code 4 (some .int)) from rfl)
set_option maxRecDepth 100000 in
theorem z_c248 : zcw 248 ∈ lw_tbl := List.mem_of_getElem? (i := 1948) (show lw_tbl[1948]? = some (.code ⟨"GrownTownModel", "isToldAlready", "(III)Z"⟩ prog_14_method_21_code 6 (some .boolean)) from rfl)
set_option maxRecDepth 100000 in
theorem z_c249 : zcw 249 ∈ lw_tbl := List.mem_of_getElem? (i := 1952) (show lw_tbl[1952]? = some (.code ⟨"GrownTownModel", "behind", "(III)V"⟩ prog_14_method_23_code 7 (none)) from rfl)
set_option maxRecDepth 100000 in
theorem z_c250 : zcw 250 ∈ lw_tbl := List.mem_of_getElem? (i := 1957) (show lw_tbl[1957]? = some (.code ⟨"GrownTownModel", "fault", "()I"⟩ prog_14_method_25_code 1 (some .int)) from rfl)
set_option maxRecDepth 100000 in
theorem z_c251 : zcw 251 ∈ lw_tbl := List.mem_of_getElem? (i := 1961) (show lw_tbl[1961]? = some (.code ⟨"GrownTownModel", "law", "(II)I"⟩ prog_14_method_27_code 3 (some .int)) from rfl)
set_option maxRecDepth 100000 in
theorem z_c252 : zcw 252 ∈ lw_tbl := List.mem_of_getElem? (i := 1965) (show lw_tbl[1965]? = some (.code ⟨"GrownTownModel", "holds", "(II)Z"⟩ prog_14_method_26_code 7 (some .boolean)) from rfl)
set_option maxRecDepth 100000 in
theorem z_c253 : zcw 253 ∈ lw_tbl := List.mem_of_getElem? (i := 1969) (show lw_tbl[1969]? = some (.code ⟨"GrownTownModel", "worth", "(II)I"⟩ prog_14_method_32_code 3 (some .int)) from rfl)
set_option maxRecDepth 100000 in
theorem z_c254 : zcw 254 ∈ lw_tbl := List.mem_of_getElem? (i := 1973) (show lw_tbl[1973]? = some (.code ⟨"GrownTownModel", "worthOf", "(III)I"⟩ prog_14_method_31_code 6 (some .int)) from rfl)
set_option maxRecDepth 100000 in
theorem z_c255 : zcw 255 ∈ lw_tbl := List.mem_of_getElem? (i := 1977) (show lw_tbl[1977]? = some (.code ⟨"GrownTownModel", "adds", "(IIII)I"⟩ prog_14_method_30_code 9 (some .int)) from rfl)
set_option maxRecDepth 100000 in
theorem z_c256 : zcw 256 ∈ lw_tbl := List.mem_of_getElem? (i := 1981) (show lw_tbl[1981]? = some (.code ⟨"GrownTownModel", "farOf", "(II)I"⟩ prog_14_method_29_code 5 (some .int)) from rfl)
set_option maxRecDepth 100000 in
theorem z_c257 : zcw 257 ∈ lw_tbl := List.mem_of_getElem? (i := 1986) (show lw_tbl[1986]? = some (.code ⟨"GrownTownModel", "cause", "(III)I"⟩ prog_14_method_33_code 4 (some .int)) from rfl)
set_option maxRecDepth 100000 in
theorem z_c258 : zcw 258 ∈ lw_tbl := List.mem_of_getElem? (i := 1990) (show lw_tbl[1990]? = some (.code ⟨"GrownTownModel", "may", "(II)I"⟩ prog_14_method_36_code 3 (some .int)) from rfl)
set_option maxRecDepth 100000 in
theorem z_c259 : zcw 259 ∈ lw_tbl := List.mem_of_getElem? (i := 1994) (show lw_tbl[1994]? = some (.code ⟨"GrownTownModel", "mayBe", "(III)Z"⟩ prog_14_method_35_code 9 (some .boolean)) from rfl)
set_option maxRecDepth 100000 in
theorem z_c260 : zcw 260 ∈ lw_tbl := List.mem_of_getElem? (i := 1998) (show lw_tbl[1998]? = some (.code ⟨"GrownTownModel", "limit", "(III)I"⟩ prog_14_method_28_code 6 (some .int)) from rfl)
set_option maxRecDepth 100000 in
theorem z_c261 : zcw 261 ∈ lw_tbl := List.mem_of_getElem? (i := 2002) (show lw_tbl[2002]? = some (.code ⟨"GrownTownModel", "usesOf", "(I)I"⟩ prog_14_method_34_code 4 (some .int)) from rfl)
set_option maxRecDepth 100000 in
theorem z_c262 : zcw 262 ∈ lw_tbl := List.mem_of_getElem? (i := 2006) (show lw_tbl[2006]? = some (.code ⟨"GrownTownModel", "seeker", "(IIII)I"⟩ prog_14_method_39_code 5 (some .int)) from rfl)
set_option maxRecDepth 100000 in
theorem z_c263 : zcw 263 ∈ lw_tbl := List.mem_of_getElem? (i := 2013) (show lw_tbl[2013]? = some (.code ⟨"GrownTownModel", "comes", "(IIII)V"⟩ prog_14_method_38_code 5 (none)) from rfl)
set_option maxRecDepth 100000 in
theorem z_c264 : zcw 264 ∈ lw_tbl := List.mem_of_getElem? (i := 2017) (show lw_tbl[2017]? = some (.code ⟨"GrownTownModel", "told", "(II)I"⟩ prog_14_method_40_code 3 (some .int)) from rfl)
set_option maxRecDepth 100000 in
theorem z_c265 : zcw 265 ∈ lw_tbl := List.mem_of_getElem? (i := 2021) (show lw_tbl[2021]? = some (.code ⟨"GrownTownModel", "isSeeker", "(I)Z"⟩ prog_14_method_37_code 2 (some .boolean)) from rfl)
set_option maxRecDepth 100000 in
theorem z_c266 : zcw 266 ∈ lw_tbl := List.mem_of_getElem? (i := 2025) (show lw_tbl[2025]? = some (.code ⟨"GrownTownModel", "would", "(I)I"⟩ prog_14_method_46_code 2 (some .int)) from rfl)
set_option maxRecDepth 100000 in
theorem z_c267 : zcw 267 ∈ lw_tbl := List.mem_of_getElem? (i := 2029) (show lw_tbl[2029]? = some (.code ⟨"GrownTownModel", "seeks", "(I)Z"⟩ prog_14_method_41_code 2 (some .boolean)) from rfl)
set_option maxRecDepth 100000 in
theorem z_c268 : zcw 268 ∈ lw_tbl := List.mem_of_getElem? (i := 2033) (show lw_tbl[2033]? = some (.code ⟨"GrownTownModel", "settleBids", "()V"⟩ prog_14_method_45_code 7 (none)) from rfl)
set_option maxRecDepth 100000 in
theorem z_c269 : zcw 269 ∈ lw_tbl := List.mem_of_getElem? (i := 2037) (show lw_tbl[2037]? = some (.code ⟨"GrownTownModel", "asks", "(I)I"⟩ prog_14_method_44_code 5 (some .int)) from rfl)
set_option maxRecDepth 100000 in
theorem z_c270 : zcw 270 ∈ lw_tbl := List.mem_of_getElem? (i := 2041) (show lw_tbl[2041]? = some (.code ⟨"GrownTownModel", "valueOf", "(II)I"⟩ prog_14_method_42_code 3 (some .int)) from rfl)
set_option maxRecDepth 100000 in
theorem z_c271 : zcw 271 ∈ lw_tbl := List.mem_of_getElem? (i := 2045) (show lw_tbl[2045]? = some (.code ⟨"GrownTownModel", "bidOf", "(II)I"⟩ prog_14_method_43_code 4 (some .int)) from rfl)
set_option maxRecDepth 100000 in
theorem z_c272 : zcw 272 ∈ lw_tbl := List.mem_of_getElem? (i := 2049) (show lw_tbl[2049]? = some (.code ⟨"GrownTownModel", "year", "()I"⟩ prog_14_method_49_code 2 (some .int)) from rfl)
set_option maxRecDepth 100000 in
theorem z_c273 : zcw 273 ∈ lw_tbl := List.mem_of_getElem? (i := 2053) (show lw_tbl[2053]? = some (.code ⟨"GrownTownModel", "goYear", "()V"⟩ prog_14_method_47_code 3 (none)) from rfl)
set_option maxRecDepth 100000 in
theorem z_c274 : zcw 274 ∈ lw_tbl := List.mem_of_getElem? (i := 2057) (show lw_tbl[2057]? = some (.code ⟨"GrownTownModel", "withUse", "()I"⟩ prog_14_method_48_code 1 (some .int)) from rfl)
set_option maxRecDepth 100000 in
theorem z_c275 : zcw 275 ∈ lw_tbl := List.mem_of_getElem? (i := 2061) (show lw_tbl[2061]? = some (.code ⟨"GrownTownModel", "was", "(II)I"⟩ prog_14_method_51_code 3 (some .int)) from rfl)
set_option maxRecDepth 100000 in
theorem z_c276 : zcw 276 ∈ lw_tbl := List.mem_of_getElem? (i := 2065) (show lw_tbl[2065]? = some (.code ⟨"GrownTownModel", "isPast", "(I)Z"⟩ prog_14_method_50_code 2 (some .boolean)) from rfl)
set_option maxRecDepth 100000 in
theorem z_c277 : zcw 277 ∈ lw_tbl := List.mem_of_getElem? (i := 2069) (show lw_tbl[2069]? = some (.code ⟨"GrownTownModel", "went", "(II)I"⟩ prog_14_method_52_code 3 (some .int)) from rfl)
set_option maxRecDepth 100000 in
theorem z_c278 : zcw 278 ∈ lw_tbl := List.mem_of_getElem? (i := 2073) (show lw_tbl[2073]? = some (.code ⟨"GrownTownModel", "without", "(I)I"⟩ prog_14_method_57_code 2 (some .int)) from rfl)
set_option maxRecDepth 100000 in
theorem z_c279 : zcw 279 ∈ lw_tbl := List.mem_of_getElem? (i := 2078) (show lw_tbl[2078]? = some (.code ⟨"GrownTownModel", "growAnew", "(I)V"⟩ prog_14_method_56_code 6 (none)) from rfl)
set_option maxRecDepth 100000 in
theorem z_c280 : zcw 280 ∈ lw_tbl := List.mem_of_getElem? (i := 2082) (show lw_tbl[2082]? = some (.code ⟨"GrownTownModel", "putAside", "()V"⟩ prog_14_method_53_code 2 (none)) from rfl)
set_option maxRecDepth 100000 in
theorem z_c281 : zcw 281 ∈ lw_tbl := List.mem_of_getElem? (i := 2086) (show lw_tbl[2086]? = some (.code ⟨"GrownTownModel", "again", "(II)V"⟩ prog_14_method_55_code 7 (none)) from rfl)
set_option maxRecDepth 100000 in
theorem z_c282 : zcw 282 ∈ lw_tbl := List.mem_of_getElem? (i := 2090) (show lw_tbl[2090]? = some (.code ⟨"GrownTownModel", "bringBack", "()V"⟩ prog_14_method_54_code 2 (none)) from rfl)
set_option maxRecDepth 100000 in
theorem z_c283 : zcw 283 ∈ lw_tbl := List.mem_of_getElem? (i := 2094) (show lw_tbl[2094]? = some (.code ⟨"GrownTownModel", "withoutMore", "(I)I"⟩ prog_14_method_58_code 2 (some .int)) from rfl)
set_option maxRecDepth 100000 in
theorem z_c284 : zcw 284 ∈ lw_tbl := List.mem_of_getElem? (i := 2098) (show lw_tbl[2098]? = some (.code ⟨"GrownTownModel", "tram", "(II)I"⟩ prog_14_method_59_code 3 (some .int)) from rfl)
set_option maxRecDepth 100000 in
theorem z_c285 : zcw 285 ∈ lw_tbl := List.mem_of_getElem? (i := 2102) (show lw_tbl[2102]? = some (.code ⟨"GrownTownModel", "stop", "(II)I"⟩ prog_14_method_60_code 3 (some .int)) from rfl)
set_option maxRecDepth 100000 in
theorem z_c286 : zcw 286 ∈ lw_tbl := List.mem_of_getElem? (i := 2106) (show lw_tbl[2106]? = some (.code ⟨"GrownTownModel", "time", "(II)I"⟩ prog_14_method_71_code 3 (some .int)) from rfl)
set_option maxRecDepth 100000 in
theorem z_c287 : zcw 287 ∈ lw_tbl := List.mem_of_getElem? (i := 2110) (show lw_tbl[2110]? = some (.code ⟨"GrownTownModel", "clearCrowd", "()V"⟩ prog_14_method_66_code 2 (none)) from rfl)
set_option maxRecDepth 100000 in
theorem z_c288 : zcw 288 ∈ lw_tbl := List.mem_of_getElem? (i := 2114) (show lw_tbl[2114]? = some (.code ⟨"GrownTownModel", "layWay", "(II)Z"⟩ prog_14_method_70_code 3 (some .boolean)) from rfl)
set_option maxRecDepth 100000 in
theorem z_c289 : zcw 289 ∈ lw_tbl := List.mem_of_getElem? (i := 2118) (show lw_tbl[2118]? = some (.code ⟨"GrownTownModel", "layDistances", "(I)V"⟩ prog_14_method_65_code 6 (none)) from rfl)
set_option maxRecDepth 100000 in
theorem z_c290 : zcw 290 ∈ lw_tbl := List.mem_of_getElem? (i := 2123) (show lw_tbl[2123]? = some (.code ⟨"GrownTownModel", "isState", "(I)Z"⟩ prog_14_method_62_code 2 (some .boolean)) from rfl)
set_option maxRecDepth 100000 in
theorem z_c291 : zcw 291 ∈ lw_tbl := List.mem_of_getElem? (i := 2127) (show lw_tbl[2127]? = some (.code ⟨"GrownTownModel", "takes", "(II)I"⟩ prog_14_method_64_code 4 (some .int)) from rfl)
set_option maxRecDepth 100000 in
theorem z_c292 : zcw 292 ∈ lw_tbl := List.mem_of_getElem? (i := 2131) (show lw_tbl[2131]? = some (.code ⟨"GrownTownModel", "edge", "(II)I"⟩ prog_14_method_63_code 5 (some .int)) from rfl)
set_option maxRecDepth 100000 in
theorem z_c293 : zcw 293 ∈ lw_tbl := List.mem_of_getElem? (i := 2135) (show lw_tbl[2135]? = some (.code ⟨"GrownTownModel", "plotOf", "(I)I"⟩ prog_14_method_61_code 2 (some .int)) from rfl)
set_option maxRecDepth 100000 in
theorem z_c294 : zcw 294 ∈ lw_tbl := List.mem_of_getElem? (i := 2139) (show lw_tbl[2139]? = some (.code ⟨"GrownTownModel", "way", "(III)I"⟩ prog_14_method_72_code 4 (some .int)) from rfl)
set_option maxRecDepth 100000 in
theorem z_c295 : zcw 295 ∈ lw_tbl := List.mem_of_getElem? (i := 2143) (show lw_tbl[2143]? = some (.code ⟨"GrownTownModel", "layPath", "(II)V"⟩ prog_14_method_68_code 6 (none)) from rfl)
set_option maxRecDepth 100000 in
theorem z_c296 : zcw 296 ∈ lw_tbl := List.mem_of_getElem? (i := 2147) (show lw_tbl[2147]? = some (.code ⟨"GrownTownModel", "change", "()V"⟩ prog_14_method_67_code 5 (none)) from rfl)
set_option maxRecDepth 100000 in
theorem z_c297 : zcw 297 ∈ lw_tbl := List.mem_of_getElem? (i := 2151) (show lw_tbl[2151]? = some (.code ⟨"GrownTownModel", "goes", "(II)Z"⟩ prog_14_method_69_code 4 (some .boolean)) from rfl)
set_option maxRecDepth 100000 in
theorem z_c298 : zcw 298 ∈ lw_tbl := List.mem_of_getElem? (i := 2155) (show lw_tbl[2155]? = some (.code ⟨"GrownTownModel", "trip", "(II)I"⟩ prog_14_method_73_code 3 (some .int)) from rfl)
set_option maxRecDepth 100000 in
theorem z_c299 : zcw 299 ∈ lw_tbl := List.mem_of_getElem? (i := 2159) (show lw_tbl[2159]? = some (.code ⟨"GrownTownModel", "balance", "()I"⟩ prog_14_method_78_code 1 (some .int)) from rfl)
set_option maxRecDepth 100000 in
theorem z_c300 : zcw 300 ∈ lw_tbl := List.mem_of_getElem? (i := 2163) (show lw_tbl[2163]? = some (.code ⟨"GrownTownModel", "layTrips", "()I"⟩ prog_14_method_77_code 5 (some .int)) from rfl)
set_option maxRecDepth 100000 in
theorem z_c301 : zcw 301 ∈ lw_tbl := List.mem_of_getElem? (i := 2167) (show lw_tbl[2167]? = some (.code ⟨"GrownTownModel", "goBy", "(I)V"⟩ prog_14_method_76_code 3 (none)) from rfl)
set_option maxRecDepth 100000 in
theorem z_c302 : zcw 302 ∈ lw_tbl := List.mem_of_getElem? (i := 2171) (show lw_tbl[2171]? = some (.code ⟨"GrownTownModel", "layCrowd", "(I)V"⟩ prog_14_method_74_code 4 (none)) from rfl)
set_option maxRecDepth 100000 in
theorem z_c303 : zcw 303 ∈ lw_tbl := List.mem_of_getElem? (i := 2175) (show lw_tbl[2175]? = some (.code ⟨"GrownTownModel", "takenBy", "(I)I"⟩ prog_14_method_75_code 4 (some .int)) from rfl)
set_option maxRecDepth 100000 in
theorem z_c304 : zcw 304 ∈ lw_tbl := List.mem_of_getElem? (i := 2179) (show lw_tbl[2179]? = some (.code ⟨"GrownTownModel", "trips", "(II)I"⟩ prog_14_method_79_code 4 (some .int)) from rfl)
set_option maxRecDepth 100000 in
theorem z_c305 : zcw 305 ∈ lw_tbl := List.mem_of_getElem? (i := 2183) (show lw_tbl[2183]? = some (.code ⟨"GrownTownModel", "plan", "(III)I"⟩ prog_14_method_81_code 4 (some .int)) from rfl)
set_option maxRecDepth 100000 in
theorem z_c306 : zcw 306 ∈ lw_tbl := List.mem_of_getElem? (i := 2187) (show lw_tbl[2187]? = some (.code ⟨"GrownTownModel", "canBe", "(I)Z"⟩ prog_14_method_80_code 2 (some .boolean)) from rfl)
set_option maxRecDepth 100000 in
theorem z_c307 : zcw 307 ∈ lw_tbl := List.mem_of_getElem? (i := 2191) (show lw_tbl[2191]? = some (.code ⟨"GrownTownModel", "chosen", "(II)I"⟩ prog_14_method_86_code 8 (some .int)) from rfl)
set_option maxRecDepth 100000 in
theorem z_c308 : zcw 308 ∈ lw_tbl := List.mem_of_getElem? (i := 2195) (show lw_tbl[2195]? = some (.code ⟨"GrownTownModel", "allWorth", "()I"⟩ prog_14_method_82_code 3 (some .int)) from rfl)
set_option maxRecDepth 100000 in
theorem z_c309 : zcw 309 ∈ lw_tbl := List.mem_of_getElem? (i := 2199) (show lw_tbl[2199]? = some (.code ⟨"GrownTownModel", "canDo", "(I)Z"⟩ prog_14_method_83_code 6 (some .boolean)) from rfl)
set_option maxRecDepth 100000 in
theorem z_c310 : zcw 310 ∈ lw_tbl := List.mem_of_getElem? (i := 2203) (show lw_tbl[2203]? = some (.code ⟨"GrownTownModel", "costOf", "(I)I"⟩ prog_14_method_84_code 4 (some .int)) from rfl)
set_option maxRecDepth 100000 in
theorem z_c311 : zcw 311 ∈ lw_tbl := List.mem_of_getElem? (i := 2207) (show lw_tbl[2207]? = some (.code ⟨"GrownTownModel", "tryOut", "(IZ)V"⟩ prog_14_method_85_code 4 (none)) from rfl)
set_option maxRecDepth 100000 in
theorem z_c312 : zcw 312 ∈ lw_tbl := List.mem_of_getElem? (i := 2211) (show lw_tbl[2211]? = some (.code ⟨"GrownTownModel", "build", "(I)I"⟩ prog_14_method_87_code 3 (some .int)) from rfl)
set_option maxRecDepth 100000 in
theorem z_c313 : zcw 313 ∈ lw_tbl := List.mem_of_getElem? (i := 2217) (show lw_tbl[2217]? = some (.code ⟨"GrownTownModel", "note", "(III)I"⟩ prog_14_method_88_code 4 (some .int)) from rfl)
set_option maxRecDepth 100000 in
theorem z_c314 : zcw 314 ∈ lw_tbl := List.mem_of_getElem? (i := 2221) (show lw_tbl[2221]? = some (.code ⟨"GrownTownModel", "known", "(III)I"⟩ prog_14_method_89_code 6 (some .int)) from rfl)
set_option maxRecDepth 100000 in
theorem z_c315 : zcw 315 ∈ lw_tbl := List.mem_of_getElem? (i := 2225) (show lw_tbl[2225]? = some (.code ⟨"GrownTownModel", "sheet", "(III)I"⟩ prog_14_method_90_code 5 (some .int)) from rfl)
set_option maxRecDepth 100000 in
theorem z_c316 : zcw 316 ∈ lw_tbl := List.mem_of_getElem? (i := 2229) (show lw_tbl[2229]? = some (.code ⟨"GrownTownModel", "lay", "(III)I"⟩ prog_14_method_91_code 4 (some .int)) from rfl)
set_option maxRecDepth 100000 in
theorem z_c317 : zcw 317 ∈ lw_tbl := List.mem_of_getElem? (i := 2233) (show lw_tbl[2233]? = some (.code ⟨"GrownTownModel", "draw", "(III)I"⟩ prog_14_method_92_code 11 (some .int)) from rfl)
set_option maxRecDepth 100000 in
theorem z_c318 : zcw 318 ∈ lw_tbl := List.mem_of_getElem? (i := 2238) (show lw_tbl[2238]? = some (.code ⟨"GrownTownModel", "count", "(I)I"⟩ prog_14_method_93_code 2 (some .int)) from rfl)
set_option maxRecDepth 100000 in
theorem z_c319 : zcw 319 ∈ lw_tbl := List.mem_of_getElem? (i := 177) (show lw_tbl[177]? = some (.code ⟨"java/util/Arrays", "fill", "([II)V"⟩ prog_20_method_103_code 4 (none)) from rfl)
set_option maxRecDepth 100000 in
theorem z_c320 : zcw 320 ∈ lw_tbl := List.mem_of_getElem? (i := 180) (show lw_tbl[180]? = some (.code ⟨"java/util/Arrays", "fill", "([JJ)V"⟩ prog_20_method_101_code 5 (none)) from rfl)
set_option maxRecDepth 100000 in
theorem z_c321 : zcw 321 ∈ lw_tbl := List.mem_of_getElem? (i := 990) (show lw_tbl[990]? = some (.code ⟨"java/lang/Long", "bitCount", "(J)I"⟩ prog_15_method_50_code 2 (some .int)) from rfl)
theorem z_args0 : ((List.range 40).drop 0).all (fun y => decide ((parseMethodDescriptor (zmn y).desc).map (fun d => d.parameters.length) = some (zma y)) && plainName (zmn y).cls) = true := by decide +kernel
theorem z_args1 : ((List.range 80).drop 40).all (fun y => decide ((parseMethodDescriptor (zmn y).desc).map (fun d => d.parameters.length) = some (zma y)) && plainName (zmn y).cls) = true := by decide +kernel
theorem z_args2 : ((List.range 120).drop 80).all (fun y => decide ((parseMethodDescriptor (zmn y).desc).map (fun d => d.parameters.length) = some (zma y)) && plainName (zmn y).cls) = true := by decide +kernel
theorem z_args3 : ((List.range 160).drop 120).all (fun y => decide ((parseMethodDescriptor (zmn y).desc).map (fun d => d.parameters.length) = some (zma y)) && plainName (zmn y).cls) = true := by decide +kernel
theorem z_args4 : ((List.range 200).drop 160).all (fun y => decide ((parseMethodDescriptor (zmn y).desc).map (fun d => d.parameters.length) = some (zma y)) && plainName (zmn y).cls) = true := by decide +kernel
theorem z_args5 : ((List.range 240).drop 200).all (fun y => decide ((parseMethodDescriptor (zmn y).desc).map (fun d => d.parameters.length) = some (zma y)) && plainName (zmn y).cls) = true := by decide +kernel
theorem z_args6 : ((List.range 280).drop 240).all (fun y => decide ((parseMethodDescriptor (zmn y).desc).map (fun d => d.parameters.length) = some (zma y)) && plainName (zmn y).cls) = true := by decide +kernel
theorem z_args7 : ((List.range 320).drop 280).all (fun y => decide ((parseMethodDescriptor (zmn y).desc).map (fun d => d.parameters.length) = some (zma y)) && plainName (zmn y).cls) = true := by decide +kernel
theorem z_args8 : ((List.range 322).drop 320).all (fun y => decide ((parseMethodDescriptor (zmn y).desc).map (fun d => d.parameters.length) = some (zma y)) && plainName (zmn y).cls) = true := by decide +kernel
theorem z_law : zmn 0 = x ∧ zmb 0 = code ∧ zml 0 = maxLocals ∧ zmr 0 = ret := ⟨rfl, rfl, rfl, rfl⟩
def zlk0 : List ((Nat × Nat) × (Nat × Nat) × List Nat) := [((13, 9), (2, 178), [150, 151, 128, 152]),
  ((13, 12), (2, 227), [1613, 1614, 142, 1615]),
  ((13, 13), (0, 181), [620, 621, 622, 128, 623]),
  ((13, 17), (0, 228), [1856, 1857, 1858, 142, 1859]),
  ((13, 18), (0, 182), [643, 644, 645, 128, 646]),
  ((13, 21), (0, 231), [1868, 1869, 1870, 142, 1871]),
  ((13, 22), (0, 183), [686, 687, 688, 128, 689]),
  ((13, 25), (0, 235), [1885, 1886, 1887, 142, 1888]),
  ((13, 26), (0, 184), [694, 695, 696, 128, 697]),
  ((13, 29), (0, 236), [1890, 1891, 1892, 142, 1893]),
  ((13, 30), (0, 185), [730, 731, 732, 128, 733]),
  ((13, 33), (0, 238), [1899, 1900, 1901, 142, 1902]),
  ((13, 36), (0, 186), [741, 742, 743, 128, 744]),
  ((13, 40), (0, 239), [1903, 1904, 1905, 142, 1906]),
  ((13, 41), (0, 187), [749, 750, 751, 128, 752]),
  ((13, 45), (0, 240), [1907, 1908, 1909, 142, 1910]),
  ((13, 46), (0, 188), [753, 754, 755, 128, 756]),
  ((13, 50), (0, 241), [1911, 1912, 1913, 142, 1914]),
  ((13, 51), (0, 189), [952, 953, 954, 128, 955]),
  ((13, 54), (0, 250), [1954, 1955, 1956, 142, 1957]),
  ((13, 55), (0, 190), [956, 957, 958, 128, 959]),
  ((13, 58), (0, 251), [1958, 1959, 1960, 142, 1961]),
  ((13, 59), (0, 191), [970, 971, 972, 128, 973]),
  ((13, 62), (0, 253), [1966, 1967, 1968, 142, 1969]),
  ((13, 63), (0, 192), [994, 995, 996, 128, 997]),
  ((13, 67), (0, 257), [1983, 1984, 1985, 142, 1986]),
  ((13, 68), (0, 193), [999, 1000, 1001, 128, 1002]),
  ((13, 71), (0, 258), [1987, 1988, 1989, 142, 1990]),
  ((13, 72), (0, 194), [1026, 1027, 1028, 128, 1029]),
  ((13, 76), (0, 262), [2003, 2004, 2005, 142, 2006]),
  ((13, 77), (0, 195), [1043, 1044, 1045, 128, 1046]),
  ((13, 80), (0, 264), [2014, 2015, 2016, 142, 2017]),
  ((13, 81), (0, 196), [1052, 1053, 1054, 128, 1055]),
  ((13, 84), (0, 266), [2022, 2023, 2024, 142, 2025]),
  ((13, 85), (0, 197), [1108, 1109, 1110, 128, 1111]),
  ((13, 88), (0, 272), [2046, 2047, 2048, 142, 2049]),
  ((13, 89), (0, 198), [1156, 1157, 1158, 128, 1159]),
  ((13, 92), (0, 275), [2058, 2059, 2060, 142, 2061]),
  ((13, 93), (0, 199), [1170, 1171, 1172, 128, 1173]),
  ((13, 96), (0, 277), [2066, 2067, 2068, 142, 2069])]
def zlk1 : List ((Nat × Nat) × (Nat × Nat) × List Nat) := [((13, 97), (0, 200), [1178, 1179, 1180, 128, 1181]),
  ((13, 100), (0, 278), [2070, 2071, 2072, 142, 2073]),
  ((13, 101), (0, 203), [1212, 1213, 1214, 128, 1215]),
  ((13, 104), (0, 283), [2091, 2092, 2093, 142, 2094]),
  ((13, 105), (0, 204), [1216, 1217, 1218, 128, 1219]),
  ((13, 108), (0, 284), [2095, 2096, 2097, 142, 2098]),
  ((13, 109), (0, 206), [1237, 1238, 1239, 128, 1240]),
  ((13, 112), (0, 285), [2099, 2100, 2101, 142, 2102]),
  ((13, 113), (0, 207), [1251, 1252, 1253, 128, 1254]),
  ((13, 116), (0, 286), [2103, 2104, 2105, 142, 2106]),
  ((13, 117), (0, 208), [1312, 1313, 1314, 128, 1315]),
  ((13, 120), (0, 294), [2136, 2137, 2138, 142, 2139]),
  ((13, 121), (0, 209), [1350, 1351, 1352, 128, 1353]),
  ((13, 124), (0, 298), [2152, 2153, 2154, 142, 2155]),
  ((13, 125), (0, 210), [1359, 1360, 1361, 128, 1362]),
  ((13, 128), (0, 299), [2156, 2157, 2158, 142, 2159]),
  ((13, 129), (0, 211), [1429, 1430, 1431, 128, 1432]),
  ((13, 132), (0, 304), [2176, 2177, 2178, 142, 2179]),
  ((13, 133), (0, 212), [1444, 1445, 1446, 128, 1447]),
  ((13, 136), (0, 305), [2180, 2181, 2182, 142, 2183]),
  ((13, 137), (0, 213), [1454, 1455, 1456, 128, 1457]),
  ((13, 140), (0, 307), [2188, 2189, 2190, 142, 2191]),
  ((13, 141), (0, 214), [1506, 1507, 1508, 128, 1509]),
  ((13, 144), (0, 312), [2208, 2209, 2210, 142, 2211]),
  ((13, 145), (0, 215), [1514, 1515, 1516, 128, 1517]),
  ((13, 148), (0, 313), [2214, 2215, 2216, 142, 2217]),
  ((13, 149), (0, 216), [1523, 1524, 1525, 128, 1526]),
  ((13, 152), (0, 314), [2218, 2219, 2220, 142, 2221]),
  ((13, 153), (0, 217), [1536, 1537, 1538, 128, 1539]),
  ((13, 156), (0, 315), [2222, 2223, 2224, 142, 2225]),
  ((13, 157), (0, 218), [1545, 1546, 1547, 128, 1548]),
  ((13, 160), (0, 316), [2226, 2227, 2228, 142, 2229]),
  ((13, 161), (0, 219), [1570, 1571, 1572, 128, 1573]),
  ((13, 164), (0, 317), [2230, 2231, 2232, 142, 2233]),
  ((13, 165), (0, 226), [1604, 1605, 1606, 128, 1607]),
  ((13, 168), (0, 318), [2235, 2236, 2237, 142, 2238]),
  ((0, 3), (6, 0), [351, 154, 155]),
  ((0, 31), (0, 3), [667, 660, 661, 135, 662]),
  ((0, 35), (0, 5), [668, 670, 2, 135, 671]),
  ((0, 48), (4, 179), [672, 173, 128, 174])]
def zlk2 : List ((Nat × Nat) × (Nat × Nat) × List Nat) := [((0, 43), (5, 59), [943, 242, 133, 243]),
  ((0, 44), (0, 65), [944, 945, 946, 133, 947]),
  ((0, 39), (0, 4), [949, 664, 665, 135, 666]),
  ((0, 52), (0, 9), [1190, 1192, 36, 135, 1193]),
  ((0, 56), (0, 11), [1198, 1200, 37, 135, 1201]),
  ((0, 60), (0, 115), [1202, 652, 653, 129, 654]),
  ((0, 69), (0, 20), [1203, 674, 675, 130, 676]),
  ((0, 74), (0, 23), [1204, 691, 692, 130, 693]),
  ((0, 77), (0, 116), [1205, 699, 700, 129, 701]),
  ((0, 81), (0, 117), [1206, 707, 708, 129, 709]),
  ((0, 88), (0, 92), [1207, 1039, 1040, 134, 1041]),
  ((1, 3), (6, 0), [167, 154, 155]),
  ((1, 28), (0, 13), [168, 169, 170, 130, 171]),
  ((1, 32), (4, 179), [172, 173, 128, 174]),
  ((1, 49), (1, 319), [175, 176, 131, 177]),
  ((1, 55), (1, 320), [178, 179, 131, 180]),
  ((1, 58), (0, 14), [181, 183, 0, 130, 184]),
  ((1, 61), (0, 15), [185, 187, 1, 130, 188]),
  ((1, 65), (4, 180), [200, 201, 128, 202]),
  ((1, 69), (0, 16), [189, 190, 191, 130, 192]),
  ((1, 73), (9, 0), [193, 194, 132]),
  ((1, 78), (0, 17), [196, 197, 198, 130, 199]),
  ((1, 81), (0, 18), [677, 648, 649, 130, 650]),
  ((1, 85), (1, 21), [678, 679, 130, 680]),
  ((1, 88), (0, 22), [681, 683, 3, 130, 684]),
  ((1, 94), (1, 321), [988, 989, 147, 990]),
  ((1, 100), (0, 29), [1155, 1023, 1024, 130, 1025]),
  ((2, 3), (6, 0), [376, 154, 155]),
  ((2, 118), (0, 35), [761, 763, 4, 136, 764]),
  ((2, 124), (0, 49), [876, 878, 17, 136, 879]),
  ((2, 127), (0, 50), [880, 882, 18, 136, 883]),
  ((2, 35), (0, 36), [765, 767, 5, 136, 768]),
  ((2, 39), (0, 37), [769, 771, 6, 136, 772]),
  ((2, 42), (0, 39), [777, 779, 8, 136, 780]),
  ((2, 28), (0, 38), [773, 775, 7, 136, 776]),
  ((2, 52), (0, 40), [781, 783, 9, 136, 784]),
  ((2, 45), (0, 41), [785, 787, 10, 136, 788]),
  ((2, 56), (0, 42), [789, 791, 11, 136, 792]),
  ((2, 59), (0, 43), [793, 795, 12, 136, 796]),
  ((2, 49), (0, 46), [864, 866, 14, 136, 867])]
def zlk3 : List ((Nat × Nat) × (Nat × Nat) × List Nat) := [((2, 63), (0, 47), [868, 870, 15, 136, 871]),
  ((2, 66), (0, 48), [872, 874, 16, 136, 875]),
  ((2, 69), (1, 44), [797, 798, 136, 799]),
  ((2, 73), (0, 45), [812, 814, 13, 136, 815]),
  ((2, 77), (7, 0), [816, 817, 818, 143, 819]),
  ((2, 82), (8, 0), [826, 827, 828, 143, 829]),
  ((2, 137), (0, 51), [884, 886, 19, 136, 887]),
  ((2, 141), (0, 52), [888, 890, 20, 136, 891]),
  ((2, 147), (0, 60), [892, 893, 894, 133, 895]),
  ((2, 144), (0, 53), [896, 898, 21, 136, 899]),
  ((2, 150), (0, 54), [900, 902, 22, 136, 903]),
  ((2, 154), (0, 55), [904, 906, 23, 136, 907]),
  ((2, 157), (0, 56), [908, 910, 24, 136, 911]),
  ((2, 160), (0, 61), [912, 913, 914, 133, 915]),
  ((2, 163), (0, 63), [920, 921, 922, 133, 923]),
  ((2, 167), (0, 64), [929, 926, 927, 133, 928]),
  ((2, 170), (0, 57), [930, 932, 25, 136, 933]),
  ((2, 174), (0, 58), [934, 936, 26, 136, 937]),
  ((2, 178), (0, 62), [938, 917, 918, 133, 919]),
  ((3, 1), (6, 0), [244, 154, 155]),
  ((3, 25), (0, 62), [916, 917, 918, 133, 919]),
  ((3, 17), (0, 60), [924, 893, 894, 133, 895]),
  ((3, 21), (0, 64), [925, 926, 927, 133, 928]),
  ((3, 29), (0, 63), [948, 921, 922, 133, 923]),
  ((3, 32), (0, 66), [969, 961, 962, 133, 963]),
  ((3, 36), (4, 179), [1017, 173, 128, 174]),
  ((4, 3), (6, 0), [554, 154, 155]),
  ((4, 28), (4, 179), [1522, 173, 128, 174]),
  ((4, 32), (11, 0), [1531, 1101, 132]),
  ((5, 3), (6, 0), [522, 154, 155]),
  ((5, 25), (4, 179), [1453, 173, 128, 174]),
  ((5, 39), (0, 130), [1466, 1459, 1460, 129, 1461]),
  ((5, 48), (11, 0), [1467, 1101, 132]),
  ((5, 54), (0, 77), [1468, 1470, 63, 139, 1471]),
  ((5, 62), (0, 80), [1480, 1482, 66, 139, 1483]),
  ((5, 66), (0, 82), [1490, 1492, 67, 139, 1493]),
  ((5, 70), (0, 78), [1472, 1474, 64, 139, 1475]),
  ((5, 29), (0, 79), [1476, 1478, 65, 139, 1479]),
  ((5, 74), (0, 81), [1484, 1485, 1486, 139, 1487]),
  ((5, 77), (4, 180), [1488, 201, 128, 202])]
def zlk4 : List ((Nat × Nat) × (Nat × Nat) × List Nat) := [((5, 81), (0, 28), [1489, 1008, 1009, 130, 1010]),
  ((5, 86), (0, 83), [1494, 1495, 1496, 139, 1497]),
  ((5, 89), (1, 84), [1498, 1499, 139, 1500]),
  ((5, 93), (1, 85), [1503, 1504, 139, 1505]),
  ((5, 97), (0, 20), [1501, 674, 675, 130, 676]),
  ((5, 100), (0, 25), [1502, 727, 728, 130, 729]),
  ((6, 5), (6, 0), [260, 154, 155]),
  ((6, 70), (0, 88), [714, 715, 716, 134, 717]),
  ((6, 66), (0, 89), [718, 719, 720, 134, 721]),
  ((6, 62), (4, 179), [1042, 173, 128, 174]),
  ((6, 74), (0, 94), [1068, 1057, 1058, 134, 1059]),
  ((6, 78), (4, 180), [1076, 201, 128, 202]),
  ((6, 84), (1, 319), [1082, 176, 131, 177]),
  ((6, 90), (1, 320), [1083, 179, 131, 180]),
  ((6, 93), (0, 98), [1084, 1085, 1086, 134, 1087]),
  ((6, 95), (0, 99), [1088, 1090, 27, 134, 1091]),
  ((6, 98), (0, 100), [1092, 1094, 28, 134, 1095]),
  ((6, 102), (0, 101), [1096, 1098, 29, 134, 1099]),
  ((6, 105), (11, 0), [1100, 1101, 132]),
  ((6, 110), (0, 102), [1103, 1105, 30, 134, 1106]),
  ((7, 1), (6, 0), [577, 154, 155]),
  ((7, 19), (1, 319), [578, 176, 131, 177]),
  ((7, 25), (4, 179), [1544, 173, 128, 174]),
  ((7, 31), (0, 108), [1553, 1554, 1555, 141, 1556]),
  ((7, 35), (0, 109), [1565, 1558, 1559, 141, 1560]),
  ((7, 39), (0, 111), [1566, 1567, 1568, 141, 1569]),
  ((8, 3), (6, 0), [161, 154, 155]),
  ((8, 11), (2, 12), [164, 165, 130, 166]),
  ((8, 20), (5, 59), [241, 242, 133, 243]),
  ((8, 27), (5, 86), [257, 258, 134, 259]),
  ((8, 42), (0, 13), [629, 169, 170, 130, 171]),
  ((8, 59), (0, 19), [655, 656, 657, 130, 658]),
  ((8, 63), (0, 24), [702, 703, 704, 130, 705]),
  ((8, 66), (0, 87), [710, 711, 712, 134, 713]),
  ((8, 69), (0, 90), [722, 723, 724, 134, 725]),
  ((8, 73), (0, 25), [726, 727, 728, 130, 729]),
  ((8, 84), (0, 119), [979, 980, 981, 129, 982]),
  ((8, 77), (0, 62), [983, 917, 918, 133, 919]),
  ((8, 80), (0, 27), [984, 985, 986, 130, 987]),
  ((8, 93), (0, 28), [1007, 1008, 1009, 130, 1010])]
def zlk5 : List ((Nat × Nat) × (Nat × Nat) × List Nat) := [((8, 97), (0, 16), [1011, 190, 191, 130, 192]),
  ((8, 100), (0, 17), [1012, 197, 198, 130, 199]),
  ((8, 103), (0, 68), [1013, 1014, 1015, 133, 1016]),
  ((8, 107), (0, 69), [1018, 1019, 1020, 133, 1021]),
  ((8, 110), (0, 29), [1022, 1023, 1024, 130, 1025]),
  ((8, 113), (0, 95), [1064, 1065, 1066, 134, 1067]),
  ((8, 90), (0, 118), [1069, 976, 977, 129, 978]),
  ((8, 117), (0, 26), [1070, 736, 737, 130, 738]),
  ((8, 120), (0, 120), [1071, 1004, 1005, 129, 1006]),
  ((8, 123), (0, 96), [1072, 1073, 1074, 134, 1075]),
  ((8, 127), (4, 179), [1116, 173, 128, 174]),
  ((8, 131), (0, 121), [1117, 1061, 1062, 129, 1063]),
  ((8, 134), (0, 97), [1118, 1079, 1080, 134, 1081]),
  ((8, 137), (0, 123), [1119, 1121, 31, 129, 1122]),
  ((8, 141), (0, 124), [1132, 1134, 32, 129, 1135]),
  ((8, 144), (0, 125), [1143, 1145, 33, 129, 1146]),
  ((8, 147), (0, 126), [1147, 1149, 34, 129, 1150]),
  ((8, 150), (0, 30), [1151, 1152, 1153, 130, 1154]),
  ((8, 153), (0, 98), [1123, 1085, 1086, 134, 1087]),
  ((8, 156), (0, 103), [1124, 1125, 1126, 134, 1127]),
  ((8, 159), (0, 104), [1128, 1129, 1130, 134, 1131]),
  ((8, 160), (0, 88), [1136, 715, 716, 134, 717]),
  ((8, 163), (12, 0), [1137, 1138, 132]),
  ((8, 168), (10, 0), [1140, 1141, 132]),
  ((8, 171), (0, 127), [1168, 1161, 1162, 129, 1163]),
  ((8, 174), (0, 18), [1169, 648, 649, 130, 650]),
  ((9, 3), (6, 0), [473, 154, 155]),
  ((9, 44), (4, 179), [1358, 173, 128, 174]),
  ((9, 55), (0, 173), [1367, 1368, 1369, 137, 1370]),
  ((9, 61), (0, 135), [1371, 1373, 56, 138, 1374]),
  ((9, 67), (0, 141), [1413, 1415, 61, 138, 1416]),
  ((9, 75), (0, 174), [1375, 1376, 1377, 137, 1378]),
  ((9, 78), (0, 153), [1379, 1256, 1257, 137, 1258]),
  ((9, 82), (0, 164), [1380, 1308, 1309, 137, 1310]),
  ((9, 85), (0, 158), [1381, 1284, 1285, 137, 1286]),
  ((9, 89), (0, 165), [1382, 1317, 1318, 137, 1319]),
  ((9, 93), (0, 136), [1383, 1385, 57, 138, 1386]),
  ((9, 96), (0, 138), [1393, 1395, 59, 138, 1396]),
  ((9, 48), (0, 137), [1387, 1389, 58, 138, 1390]),
  ((9, 103), (11, 0), [1391, 1101, 132])]
def zlk6 : List ((Nat × Nat) × (Nat × Nat) × List Nat) := [((9, 109), (0, 172), [1392, 1347, 1348, 137, 1349]),
  ((9, 112), (0, 139), [1397, 1398, 1399, 138, 1400]),
  ((9, 115), (0, 140), [1401, 1402, 1403, 138, 1404]),
  ((9, 117), (0, 175), [1405, 1406, 1407, 137, 1408]),
  ((9, 123), (0, 142), [1417, 1418, 1419, 138, 1420]),
  ((9, 126), (0, 143), [1421, 1423, 62, 138, 1424]),
  ((9, 120), (0, 177), [1425, 1426, 1427, 137, 1428]),
  ((10, 5), (6, 0), [418, 154, 155]),
  ((10, 52), (1, 319), [638, 176, 131, 177]),
  ((10, 58), (4, 179), [1228, 173, 128, 174]),
  ((10, 62), (0, 149), [1229, 1230, 1231, 137, 1232]),
  ((10, 66), (0, 150), [1233, 1234, 1235, 137, 1236]),
  ((10, 70), (0, 152), [1245, 1247, 40, 137, 1248]),
  ((10, 104), (0, 154), [1259, 1261, 41, 137, 1262]),
  ((10, 76), (0, 24), [1267, 703, 704, 130, 705]),
  ((10, 107), (0, 156), [1275, 1277, 43, 137, 1278]),
  ((10, 111), (0, 157), [1279, 1281, 44, 137, 1282]),
  ((10, 115), (0, 162), [1299, 1301, 48, 137, 1302]),
  ((10, 73), (0, 31), [1263, 1264, 1265, 130, 1266]),
  ((10, 79), (0, 155), [1268, 1270, 42, 137, 1271]),
  ((10, 83), (0, 26), [1272, 736, 737, 130, 738]),
  ((10, 86), (9, 0), [1273, 194, 132]),
  ((10, 120), (0, 158), [1283, 1284, 1285, 137, 1286]),
  ((10, 95), (0, 159), [1287, 1289, 45, 137, 1290]),
  ((10, 101), (0, 160), [1291, 1293, 46, 137, 1294]),
  ((10, 123), (0, 161), [1295, 1297, 47, 137, 1298]),
  ((10, 127), (0, 163), [1303, 1305, 49, 137, 1306]),
  ((10, 133), (0, 164), [1320, 1308, 1309, 137, 1310]),
  ((10, 143), (0, 166), [1321, 1323, 50, 137, 1324]),
  ((10, 146), (0, 168), [1329, 1331, 52, 137, 1332]),
  ((10, 149), (0, 171), [1342, 1344, 55, 137, 1345]),
  ((10, 152), (0, 167), [1325, 1327, 51, 137, 1328]),
  ((10, 155), (0, 169), [1333, 1335, 53, 137, 1336]),
  ((10, 159), (11, 0), [1337, 1101, 132]),
  ((10, 162), (0, 170), [1338, 1340, 54, 137, 1341]),
  ((10, 98), (0, 176), [1409, 1411, 60, 137, 1412]),
  ((11, 1), (6, 0), [153, 154, 155]),
  ((11, 9), (5, 113), [158, 159, 129, 160]),
  ((11, 21), (5, 1), [348, 349, 135, 350]),
  ((11, 28), (5, 32), [373, 374, 136, 375])]
def zlk7 : List ((Nat × Nat) × (Nat × Nat) × List Nat) := [((11, 35), (5, 59), [412, 242, 133, 243]),
  ((11, 46), (2, 146), [415, 416, 137, 417]),
  ((11, 55), (2, 131), [470, 471, 138, 472]),
  ((11, 64), (5, 74), [519, 520, 139, 521]),
  ((11, 71), (5, 70), [551, 552, 140, 553]),
  ((11, 78), (2, 105), [574, 575, 141, 576]),
  ((11, 83), (1, 179), [624, 173, 128, 174]),
  ((11, 87), (0, 114), [625, 626, 627, 129, 628]),
  ((11, 91), (0, 2), [630, 631, 632, 135, 633]),
  ((11, 94), (0, 147), [634, 635, 636, 137, 637]),
  ((11, 97), (0, 132), [639, 640, 641, 138, 642]),
  ((11, 103), (0, 18), [647, 648, 649, 130, 650]),
  ((11, 109), (0, 115), [651, 652, 653, 129, 654]),
  ((11, 112), (0, 3), [659, 660, 661, 135, 662]),
  ((11, 119), (0, 4), [663, 664, 665, 135, 666]),
  ((11, 123), (0, 20), [673, 674, 675, 130, 676]),
  ((11, 127), (0, 23), [690, 691, 692, 130, 693]),
  ((11, 130), (0, 116), [698, 699, 700, 129, 701]),
  ((11, 134), (0, 117), [706, 707, 708, 129, 709]),
  ((11, 137), (0, 24), [734, 703, 704, 130, 705]),
  ((11, 141), (0, 26), [735, 736, 737, 130, 738]),
  ((11, 144), (0, 19), [739, 656, 657, 130, 658]),
  ((11, 151), (0, 87), [740, 711, 712, 134, 713]),
  ((11, 156), (0, 33), [745, 746, 747, 136, 748]),
  ((11, 163), (0, 34), [757, 758, 759, 136, 760]),
  ((11, 170), (0, 6), [939, 940, 941, 135, 942]),
  ((11, 177), (0, 65), [950, 945, 946, 133, 947]),
  ((11, 185), (0, 66), [960, 961, 962, 133, 963]),
  ((11, 186), (0, 62), [964, 917, 918, 133, 919]),
  ((11, 189), (0, 67), [965, 966, 967, 133, 968]),
  ((11, 193), (0, 118), [975, 976, 977, 129, 978]),
  ((11, 196), (0, 119), [998, 980, 981, 129, 982]),
  ((11, 200), (0, 120), [1003, 1004, 1005, 129, 1006]),
  ((11, 203), (0, 91), [1030, 1031, 1032, 134, 1033]),
  ((11, 204), (0, 7), [1034, 1035, 1036, 135, 1037]),
  ((11, 208), (0, 92), [1038, 1039, 1040, 134, 1041]),
  ((11, 212), (0, 89), [1047, 719, 720, 134, 721]),
  ((11, 213), (0, 93), [1048, 1049, 1050, 134, 1051]),
  ((11, 216), (0, 94), [1056, 1057, 1058, 134, 1059]),
  ((11, 219), (0, 121), [1060, 1061, 1062, 129, 1063])]
def zlk8 : List ((Nat × Nat) × (Nat × Nat) × List Nat) := [((11, 225), (0, 97), [1078, 1079, 1080, 134, 1081]),
  ((11, 228), (0, 98), [1107, 1085, 1086, 134, 1087]),
  ((11, 231), (0, 122), [1112, 1113, 1114, 129, 1115]),
  ((11, 235), (0, 127), [1160, 1161, 1162, 129, 1163]),
  ((11, 238), (0, 128), [1164, 1165, 1166, 129, 1167]),
  ((11, 241), (0, 129), [1174, 1175, 1176, 129, 1177]),
  ((11, 244), (0, 201), [1182, 1184, 35, 128, 1185]),
  ((11, 248), (0, 202), [1208, 1210, 38, 128, 1211]),
  ((11, 404), (0, 8), [1186, 1187, 1188, 135, 1189]),
  ((11, 407), (0, 10), [1194, 1195, 1196, 135, 1197]),
  ((11, 251), (0, 205), [1220, 1222, 39, 128, 1223]),
  ((11, 257), (0, 148), [1224, 1225, 1226, 137, 1227]),
  ((11, 260), (0, 151), [1241, 1242, 1243, 137, 1244]),
  ((11, 263), (0, 150), [1249, 1234, 1235, 137, 1236]),
  ((11, 266), (0, 149), [1250, 1230, 1231, 137, 1232]),
  ((11, 269), (0, 153), [1255, 1256, 1257, 137, 1258]),
  ((11, 273), (0, 164), [1307, 1308, 1309, 137, 1310]),
  ((11, 276), (0, 158), [1311, 1284, 1285, 137, 1286]),
  ((11, 279), (0, 165), [1316, 1317, 1318, 137, 1319]),
  ((11, 283), (0, 172), [1346, 1347, 1348, 137, 1349]),
  ((11, 287), (0, 133), [1354, 1355, 1356, 138, 1357]),
  ((11, 289), (0, 134), [1363, 1364, 1365, 138, 1366]),
  ((11, 298), (0, 142), [1433, 1418, 1419, 138, 1420]),
  ((11, 301), (0, 144), [1434, 1435, 1436, 138, 1437]),
  ((11, 304), (0, 139), [1438, 1398, 1399, 138, 1400]),
  ((11, 307), (0, 145), [1439, 1440, 1441, 138, 1442]),
  ((11, 310), (0, 140), [1443, 1402, 1403, 138, 1404]),
  ((11, 312), (0, 28), [1448, 1008, 1009, 130, 1010]),
  ((11, 315), (0, 75), [1449, 1450, 1451, 139, 1452]),
  ((11, 317), (0, 130), [1458, 1459, 1460, 129, 1461]),
  ((11, 320), (0, 76), [1462, 1463, 1464, 139, 1465]),
  ((11, 333), (0, 81), [1510, 1485, 1486, 139, 1487]),
  ((11, 336), (0, 83), [1511, 1495, 1496, 139, 1497]),
  ((11, 339), (0, 182), [1512, 644, 645, 128, 646]),
  ((11, 342), (0, 184), [1513, 695, 696, 128, 697]),
  ((11, 345), (0, 71), [1518, 1519, 1520, 140, 1521]),
  ((11, 346), (0, 72), [1527, 1528, 1529, 140, 1530]),
  ((11, 349), (0, 73), [1532, 1533, 1534, 140, 1535]),
  ((11, 352), (0, 106), [1540, 1541, 1542, 141, 1543]),
  ((11, 356), (0, 107), [1549, 1550, 1551, 141, 1552])]
def zlk9 : List ((Nat × Nat) × (Nat × Nat) × List Nat) := [((11, 359), (0, 109), [1557, 1558, 1559, 141, 1560]),
  ((11, 362), (0, 110), [1561, 1562, 1563, 141, 1564]),
  ((11, 365), (0, 111), [1574, 1567, 1568, 141, 1569]),
  ((11, 368), (0, 220), [1575, 1577, 68, 128, 1578]),
  ((11, 371), (0, 221), [1583, 1585, 69, 128, 1586]),
  ((11, 377), (0, 223), [1591, 1593, 71, 128, 1594]),
  ((11, 380), (0, 225), [1599, 1601, 73, 128, 1602]),
  ((11, 411), (0, 112), [1579, 1580, 1581, 141, 1582]),
  ((11, 414), (0, 222), [1587, 1589, 70, 128, 1590]),
  ((11, 417), (0, 224), [1595, 1597, 72, 128, 1598]),
  ((11, 420), (0, 183), [1603, 687, 688, 128, 689]),
  ((11, 383), (0, 30), [1608, 1152, 1153, 130, 1154]),
  ((11, 392), (0, 108), [1609, 1554, 1555, 141, 1556]),
  ((11, 395), (0, 29), [1610, 1023, 1024, 130, 1025]),
  ((12, 1), (6, 0), [1616, 154, 155]),
  ((12, 179), (1, 229), [1861, 1862, 142, 1863]),
  ((12, 197), (0, 230), [1864, 1866, 74, 142, 1867]),
  ((12, 215), (0, 232), [1872, 1874, 75, 142, 1875]),
  ((12, 221), (0, 234), [1881, 1883, 77, 142, 1884]),
  ((12, 175), (0, 233), [1876, 1878, 76, 142, 1879]),
  ((12, 229), (0, 237), [1895, 1897, 78, 142, 1898]),
  ((12, 273), (0, 242), [1915, 1917, 79, 142, 1918]),
  ((12, 296), (0, 246), [1935, 1937, 83, 142, 1938]),
  ((12, 245), (0, 243), [1919, 1921, 80, 142, 1922]),
  ((12, 262), (0, 244), [1925, 1927, 81, 142, 1928]),
  ((12, 266), (0, 245), [1929, 1931, 82, 142, 1932]),
  ((12, 281), (0, 247), [1940, 1942, 84, 142, 1943]),
  ((12, 286), (0, 248), [1945, 1947, 85, 142, 1948]),
  ((12, 290), (0, 249), [1949, 1951, 86, 142, 1952]),
  ((12, 302), (0, 252), [1962, 1964, 87, 142, 1965]),
  ((12, 313), (0, 254), [1970, 1972, 88, 142, 1973]),
  ((12, 309), (0, 255), [1974, 1976, 89, 142, 1977]),
  ((12, 306), (0, 256), [1978, 1980, 90, 142, 1981]),
  ((12, 324), (0, 259), [1991, 1993, 91, 142, 1994]),
  ((12, 318), (0, 260), [1995, 1997, 92, 142, 1998]),
  ((12, 321), (0, 261), [1999, 2001, 93, 142, 2002]),
  ((12, 333), (0, 263), [2010, 2012, 94, 142, 2013]),
  ((12, 337), (0, 265), [2018, 2020, 95, 142, 2021]),
  ((12, 343), (0, 267), [2026, 2028, 96, 142, 2029]),
  ((12, 352), (0, 268), [2030, 2032, 97, 142, 2033])]
def zlk10 : List ((Nat × Nat) × (Nat × Nat) × List Nat) := [((12, 346), (0, 269), [2034, 2036, 98, 142, 2037]),
  ((12, 349), (0, 271), [2042, 2044, 100, 142, 2045]),
  ((12, 340), (0, 270), [2038, 2040, 99, 142, 2041]),
  ((12, 364), (0, 273), [2050, 2052, 101, 142, 2053]),
  ((12, 367), (0, 274), [2054, 2056, 102, 142, 2057]),
  ((12, 370), (0, 276), [2062, 2064, 103, 142, 2065]),
  ((12, 391), (0, 279), [2075, 2077, 104, 142, 2078]),
  ((12, 373), (0, 280), [2079, 2081, 105, 142, 2082]),
  ((12, 382), (0, 281), [2083, 2085, 106, 142, 2086]),
  ((12, 386), (0, 282), [2087, 2089, 107, 142, 2090]),
  ((12, 423), (0, 287), [2107, 2109, 108, 142, 2110]),
  ((12, 426), (0, 288), [2111, 2113, 109, 142, 2114]),
  ((12, 420), (0, 289), [2115, 2117, 110, 142, 2118]),
  ((12, 405), (0, 290), [2120, 2122, 111, 142, 2123]),
  ((12, 408), (0, 291), [2124, 2126, 112, 142, 2127]),
  ((12, 399), (0, 292), [2128, 2130, 113, 142, 2131]),
  ((12, 402), (0, 293), [2132, 2134, 114, 142, 2135]),
  ((12, 429), (0, 295), [2140, 2142, 115, 142, 2143]),
  ((12, 414), (0, 296), [2144, 2146, 116, 142, 2147]),
  ((12, 417), (0, 297), [2148, 2150, 117, 142, 2151]),
  ((12, 441), (0, 300), [2160, 2162, 118, 142, 2163]),
  ((12, 432), (0, 301), [2164, 2166, 119, 142, 2167]),
  ((12, 435), (0, 302), [2168, 2170, 120, 142, 2171]),
  ((12, 438), (0, 303), [2172, 2174, 121, 142, 2175]),
  ((12, 444), (0, 306), [2184, 2186, 122, 142, 2187]),
  ((12, 447), (0, 308), [2192, 2194, 123, 142, 2195]),
  ((12, 450), (0, 309), [2196, 2198, 124, 142, 2199]),
  ((12, 453), (0, 310), [2200, 2202, 125, 142, 2203]),
  ((12, 456), (0, 311), [2204, 2206, 126, 142, 2207]),
  ((12, 460), (0, 231), [2212, 1869, 1870, 142, 1871]),
  ((12, 463), (0, 236), [2213, 1891, 1892, 142, 1893]),
  ((12, 466), (0, 235), [2234, 1886, 1887, 142, 1888])]
def zlk : List ((Nat × Nat) × (Nat × Nat) × List Nat) := zlk0 ++ (zlk1 ++ (zlk2 ++ (zlk3 ++ (zlk4 ++ (zlk5 ++ (zlk6 ++ (zlk7 ++ (zlk8 ++ (zlk9 ++ (zlk10))))))))))
def zlw (e : (Nat × Nat) × (Nat × Nat) × List Nat) : List Cond := match e.2.1.1 with
  | 0 => [.methodLink (zcn e.1.1) e.1.2 (zmn e.2.1.2), .instanceMethod (zmn e.2.1.2), .selects (zmn e.2.1.2).cls (zmn e.2.1.2) (zmn e.2.1.2), .initialized (zmn e.2.1.2).cls]
  | 1 => [.methodLink (zcn e.1.1) e.1.2 (zmn e.2.1.2), .static (zmn e.2.1.2), .initialized (zmn e.2.1.2).cls]
  | 2 => [.methodLink (zcn e.1.1) e.1.2 (zmn e.2.1.2), .instanceMethod (zmn e.2.1.2), .initialized (zmn e.2.1.2).cls]
  | 4 => [.methodLinkNest (zcn e.1.1) e.1.2 (zmn e.2.1.2) "GrownTown", .static (zmn e.2.1.2), .initialized (zmn e.2.1.2).cls]
  | 5 => [.methodLinkNest (zcn e.1.1) e.1.2 (zmn e.2.1.2) "GrownTown", .instanceMethod (zmn e.2.1.2), .initialized (zmn e.2.1.2).cls]
  | 6 => [.methodLink (zcn e.1.1) e.1.2 Lib.objectInit, .instanceMethod Lib.objectInit]
  | 7 => [.methodLink (zcn e.1.1) e.1.2 ⟨"java/lang/String", "length", "()I"⟩]
  | 8 => [.methodLink (zcn e.1.1) e.1.2 ⟨"java/lang/String", "charAt", "(I)C"⟩]
  | 9 => [.methodLink (zcn e.1.1) e.1.2 Lib.Math.abs.name, .static Lib.Math.abs.name, .initialized "java/lang/Math"]
  | 10 => [.methodLink (zcn e.1.1) e.1.2 Lib.Math.max.name, .static Lib.Math.max.name, .initialized "java/lang/Math"]
  | 11 => [.methodLink (zcn e.1.1) e.1.2 Lib.Math.min.name, .static Lib.Math.min.name, .initialized "java/lang/Math"]
  | 12 => [.methodLink (zcn e.1.1) e.1.2 ⟨"java/lang/Math", "floorDiv", "(II)I"⟩, .static ⟨"java/lang/Math", "floorDiv", "(II)I"⟩, .initialized "java/lang/Math"]
  | _ => []
def zlkT (e : (Nat × Nat) × (Nat × Nat) × List Nat) : Bool := (match e.2.1.1 with
  | 0 => decide (zms e.2.1.2 = false)
  | 1 => decide (zms e.2.1.2 = true)
  | 2 => decide (zms e.2.1.2 = false) && decide ((zmn e.2.1.2).name = "<init>") && decide (zmr e.2.1.2 = none)
  | 4 => decide (zms e.2.1.2 = true)
  | 5 => decide (zms e.2.1.2 = false) && decide ((zmn e.2.1.2).name = "<init>") && decide (zmr e.2.1.2 = none)
  | 6 => true
  | 7 => true
  | 8 => true
  | 9 => true
  | 10 => true
  | 11 => true
  | 12 => true
  | _ => false) && decide (e.2.1.2 < 322) && decide ((zlw e).map some = (e.2.2.take (zlw e).length).map (fun i => lw_tbl[i]?))
set_option maxRecDepth 100000 in
theorem z_links0 : zlk0.all zlkT = true := by decide +kernel
set_option maxRecDepth 100000 in
theorem z_links1 : zlk1.all zlkT = true := by decide +kernel
set_option maxRecDepth 100000 in
theorem z_links2 : zlk2.all zlkT = true := by decide +kernel
set_option maxRecDepth 100000 in
theorem z_links3 : zlk3.all zlkT = true := by decide +kernel
set_option maxRecDepth 100000 in
theorem z_links4 : zlk4.all zlkT = true := by decide +kernel
set_option maxRecDepth 100000 in
theorem z_links5 : zlk5.all zlkT = true := by decide +kernel
set_option maxRecDepth 100000 in
theorem z_links6 : zlk6.all zlkT = true := by decide +kernel
set_option maxRecDepth 100000 in
theorem z_links7 : zlk7.all zlkT = true := by decide +kernel
set_option maxRecDepth 100000 in
theorem z_links8 : zlk8.all zlkT = true := by decide +kernel
set_option maxRecDepth 100000 in
theorem z_links9 : zlk9.all zlkT = true := by decide +kernel
set_option maxRecDepth 100000 in
theorem z_links10 : zlk10.all zlkT = true := by decide +kernel
theorem z_links : zlk.all zlkT = true := by
  simp only [zlk, List.all_append, Bool.and_eq_true]
  exact ⟨z_links0, z_links1, z_links2, z_links3, z_links4, z_links5, z_links6, z_links7, z_links8, z_links9, z_links10⟩
def zlink (c idx : Nat) : Option (Nat × Nat) := (zlk.find? (fun e => e.1.1 == c && e.1.2 == idx)).map (·.2.1)
set_option maxRecDepth 100000 in
def zfl : List ((Nat × Nat) × (Nat × Nat) × Nat) := [((0, 11), (0, 1), 356),
  ((0, 15), (0, 2), 357),
  ((0, 18), (0, 3), 358),
  ((0, 23), (0, 4), 359),
  ((0, 27), (0, 0), 354),
  ((0, 65), (8, 0), 315),
  ((0, 84), (8, 2), 321),
  ((0, 94), (8, 1), 318),
  ((1, 9), (1, 4), 213),
  ((1, 15), (1, 5), 214),
  ((1, 18), (1, 6), 215),
  ((1, 21), (1, 7), 216),
  ((1, 25), (1, 8), 217),
  ((1, 36), (1, 0), 203),
  ((1, 40), (1, 1), 205),
  ((1, 43), (1, 2), 207),
  ((1, 46), (1, 3), 212),
  ((2, 11), (2, 3), 383),
  ((2, 15), (2, 5), 385),
  ((2, 18), (2, 6), 386),
  ((2, 21), (2, 7), 387),
  ((2, 24), (2, 0), 377),
  ((2, 110), (3, 0), 248),
  ((2, 115), (2, 1), 380),
  ((2, 121), (2, 8), 388),
  ((2, 32), (2, 4), 384),
  ((2, 134), (2, 9), 389),
  ((2, 131), (2, 2), 382),
  ((3, 9), (3, 1), 249),
  ((3, 13), (3, 0), 245),
  ((4, 11), (4, 1), 557),
  ((4, 15), (4, 2), 558),
  ((4, 18), (4, 3), 559),
  ((4, 21), (4, 4), 560),
  ((4, 24), (4, 0), 555),
  ((5, 11), (5, 4), 531),
  ((5, 15), (5, 5), 532),
  ((5, 18), (5, 6), 533),
  ((5, 21), (5, 0), 523),
  ((5, 33), (5, 1), 525),
  ((5, 36), (5, 2), 527),
  ((5, 45), (5, 3), 529),
  ((5, 58), (8, 0), 314),
  ((6, 11), (6, 1), 264),
  ((6, 15), (6, 2), 265),
  ((6, 18), (6, 3), 266),
  ((6, 21), (6, 4), 267),
  ((6, 24), (6, 5), 268),
  ((6, 27), (6, 6), 269),
  ((6, 30), (6, 7), 270),
  ((6, 33), (6, 8), 271),
  ((6, 36), (6, 9), 272),
  ((6, 39), (6, 10), 273),
  ((6, 42), (6, 11), 274),
  ((6, 46), (6, 12), 275),
  ((6, 49), (6, 13), 276),
  ((6, 52), (6, 14), 277),
  ((6, 55), (6, 15), 278),
  ((6, 58), (6, 0), 261),
  ((7, 9), (7, 0), 579),
  ((7, 13), (7, 1), 580),
  ((7, 16), (7, 2), 581),
  ((8, 12), (8, 0), 312),
  ((8, 21), (8, 1), 316),
  ((8, 28), (8, 2), 319),
  ((8, 32), (8, 5), 326),
  ((8, 36), (8, 6), 327),
  ((8, 39), (8, 7), 328),
  ((8, 46), (3, 0), 246),
  ((8, 50), (6, 0), 262),
  ((8, 53), (8, 3), 322),
  ((8, 56), (8, 4), 324),
  ((8, 87), (1, 2), 208),
  ((9, 9), (9, 4), 481),
  ((9, 15), (9, 6), 483),
  ((9, 19), (9, 7), 484),
  ((9, 22), (9, 8), 485),
  ((9, 25), (9, 9), 486),
  ((9, 28), (9, 10), 487),
  ((9, 31), (9, 11), 488),
  ((9, 34), (9, 12), 489),
  ((9, 37), (9, 0), 474),
  ((9, 41), (9, 1), 475),
  ((9, 52), (9, 5), 482),
  ((9, 64), (9, 2), 477),
  ((9, 71), (9, 3), 479),
  ((9, 100), (10, 11), 431),
  ((10, 11), (10, 2), 422),
  ((10, 15), (10, 3), 423),
  ((10, 18), (10, 4), 424),
  ((10, 21), (10, 5), 425),
  ((10, 24), (10, 6), 426),
  ((10, 27), (10, 7), 427),
  ((10, 31), (10, 8), 428),
  ((10, 34), (10, 9), 429),
  ((10, 37), (10, 12), 434),
  ((10, 40), (10, 0), 419),
  ((10, 49), (10, 1), 420),
  ((10, 91), (10, 10), 430),
  ((10, 44), (1, 3), 211),
  ((10, 118), (1, 2), 210),
  ((10, 130), (10, 11), 432),
  ((10, 137), (10, 13), 435),
  ((10, 140), (10, 14), 436),
  ((11, 10), (11, 0), 589),
  ((11, 16), (11, 1), 590),
  ((11, 22), (11, 2), 591),
  ((11, 29), (11, 3), 592),
  ((11, 36), (11, 4), 593),
  ((11, 42), (8, 0), 313),
  ((11, 49), (11, 5), 594),
  ((11, 58), (11, 6), 595),
  ((11, 65), (11, 7), 596),
  ((11, 72), (11, 8), 597),
  ((11, 79), (11, 9), 598),
  ((11, 98), (5, 0), 524),
  ((11, 102), (4, 0), 556),
  ((11, 116), (8, 3), 323),
  ((11, 147), (8, 2), 320),
  ((11, 160), (2, 0), 378),
  ((11, 167), (2, 2), 381),
  ((11, 174), (8, 1), 317),
  ((11, 181), (3, 0), 247),
  ((11, 182), (2, 1), 379),
  ((11, 222), (1, 2), 209),
  ((11, 398), (1, 0), 204),
  ((11, 401), (1, 1), 206),
  ((11, 374), (0, 0), 355),
  ((11, 254), (10, 1), 421),
  ((11, 282), (10, 11), 433),
  ((11, 286), (9, 1), 476),
  ((11, 291), (9, 3), 480),
  ((11, 295), (9, 2), 478),
  ((11, 324), (5, 1), 526),
  ((11, 327), (5, 2), 528),
  ((11, 330), (5, 3), 530),
  ((11, 386), (6, 0), 263),
  ((11, 389), (8, 4), 325),
  ((12, 7), (12, 0), 1617),
  ((12, 13), (12, 1), 1618),
  ((12, 16), (12, 2), 1619),
  ((12, 20), (12, 3), 1620),
  ((12, 23), (12, 4), 1621),
  ((12, 26), (12, 5), 1622),
  ((12, 29), (12, 9), 1626),
  ((12, 32), (12, 11), 1628),
  ((12, 35), (12, 12), 1629),
  ((12, 38), (12, 13), 1630),
  ((12, 41), (12, 14), 1631),
  ((12, 44), (12, 15), 1632),
  ((12, 47), (12, 16), 1633),
  ((12, 50), (12, 17), 1634),
  ((12, 53), (12, 18), 1635),
  ((12, 56), (12, 20), 1637),
  ((12, 59), (12, 21), 1638),
  ((12, 62), (12, 22), 1639),
  ((12, 65), (12, 23), 1640),
  ((12, 68), (12, 24), 1641),
  ((12, 71), (12, 25), 1642),
  ((12, 74), (12, 26), 1643),
  ((12, 77), (12, 35), 1652),
  ((12, 80), (12, 37), 1654),
  ((12, 83), (12, 38), 1655),
  ((12, 86), (12, 39), 1656),
  ((12, 89), (12, 40), 1657),
  ((12, 92), (12, 41), 1658),
  ((12, 96), (12, 42), 1659),
  ((12, 99), (12, 43), 1660),
  ((12, 103), (12, 47), 1664),
  ((12, 106), (12, 48), 1665),
  ((12, 109), (12, 52), 1669),
  ((12, 112), (12, 53), 1670),
  ((12, 115), (12, 54), 1671),
  ((12, 118), (12, 55), 1672),
  ((12, 121), (12, 57), 1674),
  ((12, 124), (12, 59), 1676),
  ((12, 127), (12, 60), 1677),
  ((12, 130), (12, 61), 1678),
  ((12, 133), (12, 63), 1680),
  ((12, 136), (12, 64), 1681),
  ((12, 139), (12, 65), 1682),
  ((12, 142), (12, 66), 1683),
  ((12, 145), (12, 68), 1685),
  ((12, 148), (12, 69), 1686),
  ((12, 151), (12, 70), 1687),
  ((12, 154), (12, 72), 1689),
  ((12, 157), (12, 73), 1690),
  ((12, 160), (12, 74), 1691),
  ((12, 163), (12, 75), 1692),
  ((12, 166), (12, 76), 1693),
  ((12, 169), (12, 77), 1694),
  ((12, 172), (12, 78), 1695),
  ((12, 200), (12, 19), 1636),
  ((12, 203), (12, 51), 1668),
  ((12, 206), (12, 62), 1679),
  ((12, 209), (12, 67), 1684),
  ((12, 212), (12, 71), 1688),
  ((12, 183), (12, 6), 1623),
  ((12, 186), (12, 7), 1624),
  ((12, 189), (12, 8), 1625),
  ((12, 192), (12, 10), 1627),
  ((12, 233), (12, 27), 1644),
  ((12, 236), (12, 29), 1646),
  ((12, 249), (12, 31), 1648),
  ((12, 276), (12, 36), 1653),
  ((12, 255), (12, 33), 1650),
  ((12, 299), (12, 28), 1645),
  ((12, 242), (12, 30), 1647),
  ((12, 239), (12, 32), 1649),
  ((12, 252), (12, 34), 1651),
  ((12, 355), (12, 44), 1661),
  ((12, 358), (12, 45), 1662),
  ((12, 361), (12, 46), 1663),
  ((12, 376), (12, 49), 1666),
  ((12, 379), (12, 50), 1667),
  ((12, 394), (12, 56), 1673),
  ((12, 411), (12, 58), 1675)]
def zcl (ci : Nat) : vw_C := vwCl.getD ci (RX0, TX0, 5)
def zflT (e : (Nat × Nat) × (Nat × Nat) × Nat) : Bool := decide (e.2.1.1 < 13) && decide (e.2.1.2 < (zcl e.2.1.1).2.2) && decide (lw_tbl[e.2.2]? = some (.fieldLink (zcn e.1.1) e.1.2 ((zcl e.2.1.1).2.1 e.2.1.2).1 ((zcl e.2.1.1).2.1 e.2.1.2).2.1 ((zcl e.2.1.1).2.1 e.2.1.2).2.2.1)) && decide (((zcl e.2.1.1).2.1 e.2.1.2).1 = (zcl e.2.1.1).1)
set_option maxRecDepth 100000 in
theorem z_fields : zfl.all zflT = true := by decide +kernel
def zfld (c idx : Nat) : Option (Nat × Nat) := (zfl.find? (fun e => e.1.1 == c && e.1.2 == idx)).map (·.2.1)
def zftab : List (List Nat) := [[0, 2, 2, 2, 2], [0, 0, 0, 0, 2, 2, 2, 2, 2], [0, 0, 0, 2, 0, 2, 2, 2, 0, 0], [0, 2], [0, 2, 2, 2, 2], [0, 0, 0, 0, 2, 2, 2], [0, 2, 2, 2, 2, 2, 2, 2, 2, 2, 2, 2, 2, 2, 2, 2], [2, 2, 2], [2, 2, 2, 0, 0, 2, 2, 2], [2, 0, 0, 5, 0, 0, 2, 2, 2, 2, 2, 2, 2], [2, 0, 2, 2, 2, 2, 2, 0, 2, 2, 5, 0, 2, 5, 0], [2, 2, 2, 2, 2, 2, 2, 2, 2, 2], [0, 0, 2, 2, 2, 2, 0, 0, 0, 2, 0, 2, 2, 2, 2, 2, 2, 2, 2, 0, 2, 2, 2, 2, 2, 2, 2, 0, 0, 0, 0, 0, 0, 0, 0, 2, 0, 2, 2, 2, 2, 2, 2, 2, 0, 0, 0, 2, 2, 0, 0, 0, 2, 2, 2, 2, 5, 2, 0, 2, 2, 2, 0, 2, 2, 2, 2, 0, 2, 2, 2, 0, 2, 2, 2, 2, 2, 2, 2]]
def zft (ci k : Nat) : Nat := (zftab.getD ci []).getD k 9
def znf (ci : Nat) : Nat := (zcl ci).2.2
set_option maxRecDepth 100000 in
def zct : List ((Nat × Nat) × (Nat × Int) × Nat) := [((1, 92), (1, -1), 685),
  ((2, 86), (3, 0), 800),
  ((2, 88), (3, 1), 801),
  ((2, 90), (3, 2), 802),
  ((2, 92), (3, 3), 803),
  ((2, 94), (3, 4), 804),
  ((2, 96), (3, 5), 805),
  ((2, 98), (3, 6), 806),
  ((2, 100), (3, 7), 807),
  ((2, 102), (3, 8), 808),
  ((2, 104), (3, 9), 809),
  ((2, 106), (3, 10), 810),
  ((2, 108), (3, 11), 811),
  ((11, 192), (0, -1000000), 974),
  ((15, 314), (1, 6148914691236517205), 991),
  ((15, 316), (1, 3689348814741910323), 992),
  ((15, 318), (1, 1085102592571150095), 993),
  ((6, 82), (1, -1), 1077),
  ((10, 82), (0, 1000000), 1274),
  ((12, 195), (1, 8), 1860),
  ((12, 219), (1, 2), 1880),
  ((12, 225), (1, 9), 1889),
  ((12, 227), (1, 3), 1894),
  ((12, 258), (1, 97), 1923),
  ((12, 260), (1, 122), 1924),
  ((12, 269), (1, 48), 1933),
  ((12, 271), (1, 57), 1934),
  ((12, 279), (1, 5), 1939),
  ((12, 284), (1, 6), 1944),
  ((12, 294), (1, 10), 1953),
  ((12, 317), (0, -1000000), 1982),
  ((12, 327), (1, 999), 2007),
  ((12, 329), (1, -9), 2008),
  ((12, 331), (1, 99), 2009),
  ((12, 389), (1, 11), 2074),
  ((12, 398), (0, 1000000), 2119),
  ((12, 469), (1, 20), 2239),
  ((12, 471), (1, 23), 2240),
  ((13, 34), (1, 4294967295), 2241)]
def zstr : List String := ["zone", "wish", "tax", "cap", "leave", "from", "home", "work", "shop", "water", "road", ""]
def zcstT (e : (Nat × Nat) × (Nat × Int) × Nat) : Bool := match e.2.1.1 with
  | 0 => decide (lw_tbl[e.2.2]? = some (.constant (zcn e.1.1) e.1.2 (Int32.ofInt e.2.1.2))) && decide ((Int32.ofInt e.2.1.2).toInt = e.2.1.2)
  | 1 => decide (lw_tbl[e.2.2]? = some (.constantLong (zcn e.1.1) e.1.2 (Int64.ofInt e.2.1.2))) && decide ((Int64.ofInt e.2.1.2).toInt = e.2.1.2)
  | 3 => decide (lw_tbl[e.2.2]? = some (.stringRef (zcn e.1.1) e.1.2 (zstr.getD e.2.1.2.toNat ""))) && decide (0 ≤ e.2.1.2) && decide (e.2.1.2 < 12)
  | _ => false
set_option maxRecDepth 100000 in
theorem z_consts : zct.all zcstT = true := by decide +kernel
def zcst (c idx : Nat) : Option (Nat × Int) := (zct.find? (fun e => e.1.1 == c && e.1.2 == idx)).map (·.2.1)
def znw : List ((Nat × Nat) × Nat × List Nat) := [((13, 7), 11, [148, 149, 128]),
  ((13, 10), 12, [1611, 1612, 142]),
  ((0, 21), 3, [352, 240, 133]),
  ((8, 9), 1, [162, 163, 130]),
  ((8, 18), 3, [239, 240, 133]),
  ((8, 25), 6, [255, 256, 134]),
  ((11, 7), 8, [156, 157, 129]),
  ((11, 19), 0, [346, 347, 135]),
  ((11, 26), 2, [371, 372, 136]),
  ((11, 33), 3, [411, 240, 133]),
  ((11, 40), 10, [413, 414, 137]),
  ((11, 53), 9, [468, 469, 138]),
  ((11, 62), 5, [517, 518, 139]),
  ((11, 69), 4, [549, 550, 140]),
  ((11, 76), 7, [572, 573, 141])]
def znwT (e : (Nat × Nat) × Nat × List Nat) : Bool := decide (e.2.1 < 13) && decide (([.classLink (zcn e.1.1) e.1.2 (zcl e.2.1).1, .instantiable (zcl e.2.1).1 (znf e.2.1), .initialized (zcl e.2.1).1] : List Cond).map some = e.2.2.map (fun i => lw_tbl[i]?))
set_option maxRecDepth 100000 in
theorem z_news : znw.all znwT = true := by decide +kernel
def znew (c idx : Nat) : Option Nat := (znw.find? (fun e => e.1.1 == c && e.1.2 == idx)).map (·.2.1)
set_option maxRecDepth 100000 in
def zkt : List Nat := [12, 9, 2, 20, 20, 20, 21, 21, 4, 20, 7, 20, 20, 20, 20, 20, 20, 20, 20, 20, 20, 21, 20, 21, 20, 20, 20, 20, 20, 9, 2, 20, 20, 20, 21, 21, 4, 20, 7, 20, 20, 20, 20, 20, 20, 20, 20, 20, 20, 21, 20, 21, 20, 20, 20, 20, 20, 1, 20, 20, 20, 23, 3, 20, 20, 20, 20, 4, 20, 11, 20, 20, 20, 20, 20, 20, 20, 20, 10, 20, 20, 20, 20, 20, 20, 20, 6, 20, 20, 20, 5, 20, 20, 20, 20, 8, 20, 20, 20, 13, 20, 20, 20, 20, 20, 20, 20, 20, 20, 20, 20, 20, 20, 20, 20, 20, 20, 20, 20, 20, 20, 20, 20, 20, 20, 21, 20, 22, 20, 20, 20, 20, 20, 22, 20, 20, 22, 22, 20, 20, 20, 20, 20, 20, 20, 20, 20, 20, 20, 20, 20, 20]
set_option maxRecDepth 100000 in
def zlt : List Int := [0, 0, 0, 64, 64, 64, 5, 960, 0, 84, 0, 20, 20, 20, 20, 20, 20, 20, 20, 20, 20, 20, 64, 4, 256, 64, 1536, 96, 20, 0, 0, 64, 64, 64, 5, 960, 0, 84, 0, 20, 20, 20, 20, 20, 20, 20, 20, 20, 20, 20, 64, 4, 256, 64, 1536, 96, 20, 0, 60, 60, 240, 60, 0, 320, 321, 321, 321, 0, 84, 0, 24, 4, 256, 256, 256, 88, 88, 88, 0, 8, 8, 8, 8, 8, 8, 512, 0, 6, 6, 6, 0, 16, 16, 16, 16, 0, 4, 4, 512, 0, 64, 64, 64, 64, 84, 20, 20, 20, 20, 20, 20, 20, 20, 60, 60, 240, 5040, 1536, 96, 320, 84, 12, 44, 64, 20, 20, 256, 256, 64, 512, 4, 24, 88, 88, 128, 256, 88, 88, 8, 8, 8, 512, 6, 6, 6, 16, 16, 16, 16, 4, 4, 512]
/-- what the cell of a label is (0 none; 1 and on an object of a class; 20 ints, 21 longs, 22 booleans, 23 Laws), and how long an array is -/
def KD (a : Int) : Nat := if a ≤ 0 then 0 else if a < 153 then zkt.getD (a - 1).toNat 0 else if (a - 153) % 2 = 0 then 4 else 20
def LN (a : Int) : Int := if a < 153 then zlt.getD (a - 1).toNat 0 else 84
