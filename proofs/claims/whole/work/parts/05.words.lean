/-! ===== the words behind the tables (printed by wip/whole/mkwords.py) ===== -/
def cnm : List String := [RX0, RX1, RX2, RX3, RX4, RX5, RX6, RX7, RX8, RX9, "TallySticksLaw", "java/lang/Integer", "java/lang/Math"]
def mcl : List Nat := [0, 0, 0, 1, 1, 1, 1, 1, 1, 1, 1, 1, 1, 1, 1, 1, 1, 1, 1, 1, 2, 2, 2, 2, 2, 2, 2, 3, 3, 3, 3, 3, 3, 4, 4, 4, 4, 4, 4, 4, 4, 4, 4, 4, 5, 5, 5, 5, 5, 5, 5, 5, 5, 6, 6, 6, 6, 6, 6, 6, 6, 6, 6, 6, 6, 6, 6, 6, 6, 6, 6, 6, 6, 6, 6, 6, 6, 6, 6, 7, 7, 7, 7, 7, 7, 7, 7, 7, 7, 7, 7, 7, 7, 8, 8, 8, 8, 8, 8, 8, 8, 8, 8, 8, 8, 8, 8, 8, 8, 8, 8, 8, 8, 8, 8, 8, 8, 8, 8, 8, 8, 8, 8, 8, 8, 8, 8, 8, 8, 8, 8, 8, 8, 8, 8, 8, 8, 8, 8, 8, 8, 8, 8, 9, 9, 9, 9, 9, 9, 9, 9, 9, 9, 9, 9, 9, 9, 9, 9, 9, 9, 9, 9, 9, 9, 9, 9, 9, 9, 9, 9, 9, 9, 9, 9, 9, 9, 9, 9, 9, 9, 9, 9, 9, 9, 9, 9, 9, 9, 9, 9, 9, 9, 9, 9, 9, 9, 9, 9, 9, 9, 9, 9, 9, 9, 9, 9, 9, 9, 9, 9, 9, 9, 9, 9, 9, 9, 9, 9, 9, 9, 9, 9, 9, 9, 9, 9, 9, 9, 9, 9, 9, 9, 9, 9, 9, 9, 9, 9, 9, 9, 9, 9, 9, 9, 9, 9, 9, 9, 9, 9, 9, 9, 9, 9, 9, 9, 9, 9, 9, 9, 9, 9, 9, 9, 9, 9, 9, 9, 9, 9, 9, 9, 11, 12, 12, 10]
def CB : List Cond := [.code ⟨"TallySticks$CallingIn", "<init>", "()V"⟩ prog_2_method_1_code 1 none,
  .code ⟨"TallySticks$CallingIn", "longestRow", "(LTallySticks$Chest;LTallySticks$Rules;)I"⟩ prog_2_method_2_code 4 (some .int),
  .code ⟨"TallySticks$CallingIn", "tryBehind", "(LTallySticks$Chest;LTallySticks$Rules;I)V"⟩ prog_2_method_3_code 10 none,
  .code ⟨"TallySticks$Chest", "<init>", "()V"⟩ prog_3_method_1_code 1 none,
  .code ⟨"TallySticks$Chest", "copyFrom", "(LTallySticks$Chest;)V"⟩ prog_3_method_2_code 3 none,
  .code ⟨"TallySticks$Chest", "hasPerson", "(I)Z"⟩ prog_3_method_3_code 2 (some .boolean),
  .code ⟨"TallySticks$Chest", "hasStick", "(I)Z"⟩ prog_3_method_4_code 2 (some .boolean),
  .code ⟨"TallySticks$Chest", "hasFoil", "(I)Z"⟩ prog_3_method_5_code 2 (some .boolean),
  .code ⟨"TallySticks$Chest", "addPerson", "(I)I"⟩ prog_3_method_6_code 2 (some .int),
  .code ⟨"TallySticks$Chest", "addStick", "(IIIIII)I"⟩ prog_3_method_7_code 7 (some .int),
  .code ⟨"TallySticks$Chest", "addFoil", "(II)I"⟩ prog_3_method_8_code 3 (some .int),
  .code ⟨"TallySticks$Chest", "addLaw", "(LTallySticks$Program;)I"⟩ prog_3_method_9_code 2 (some .int),
  .code ⟨"TallySticks$Chest", "lawInForce", "()LTallySticks$Program;"⟩ prog_3_method_10_code 1 (some (.object "TallySticks$Program")),
  .code ⟨"TallySticks$Chest", "isOpen", "(I)Z"⟩ prog_3_method_11_code 2 (some .boolean),
  .code ⟨"TallySticks$Chest", "isCallable", "(I)Z"⟩ prog_3_method_12_code 2 (some .boolean),
  .code ⟨"TallySticks$Chest", "netOf", "(I)I"⟩ prog_3_method_13_code 4 (some .int),
  .code ⟨"TallySticks$Chest", "openSticks", "([II)I"⟩ prog_3_method_14_code 5 (some .int),
  .code ⟨"TallySticks$Chest", "paidSticks", "()I"⟩ prog_3_method_15_code 3 (some .int),
  .code ⟨"TallySticks$Chest", "fits", "(III)Z"⟩ prog_3_method_16_code 4 (some .boolean),
  .code ⟨"TallySticks$Chest", "payOver", "(II)Z"⟩ prog_3_method_17_code 5 (some .boolean),
  .code ⟨"TallySticks$Debts", "<init>", "()V"⟩ prog_4_method_1_code 1 none,
  .code ⟨"TallySticks$Debts", "settleAll", "(LTallySticks$Chest;)I"⟩ prog_4_method_2_code 4 (some .int),
  .code ⟨"TallySticks$Debts", "partFrom", "(III)V"⟩ prog_4_method_3_code 5 none,
  .code ⟨"TallySticks$Debts", "keepParting", "(II)V"⟩ prog_4_method_4_code 4 none,
  .code ⟨"TallySticks$Debts", "shortestRing", "(LTallySticks$Chest;)I"⟩ prog_4_method_5_code 4 (some .int),
  .code ⟨"TallySticks$Debts", "closesRing", "(LTallySticks$Chest;III)Z"⟩ prog_4_method_6_code 7 (some .boolean),
  .code ⟨"TallySticks$Debts", "shortestChain", "(LTallySticks$Chest;II)I"⟩ prog_4_method_7_code 8 (some .int),
  .code ⟨"TallySticks$Deeds", "<init>", "()V"⟩ prog_5_method_1_code 1 none,
  .code ⟨"TallySticks$Deeds", "forget", "()V"⟩ prog_5_method_2_code 1 none,
  .code ⟨"TallySticks$Deeds", "copyFrom", "(LTallySticks$Deeds;)V"⟩ prog_5_method_3_code 2 none,
  .code ⟨"TallySticks$Deeds", "prepare", "(ILTallySticks$Chest;I)V"⟩ prog_5_method_4_code 6 none,
  .code ⟨"TallySticks$Deeds", "keep", "()V"⟩ prog_5_method_5_code 1 none,
  .code ⟨"TallySticks$Deeds", "takeBack", "(LTallySticks$Chest;)I"⟩ prog_5_method_6_code 6 (some .int),
  .code ⟨"TallySticks$Halves", "<init>", "()V"⟩ prog_6_method_1_code 1 none,
  .code ⟨"TallySticks$Halves", "seeFitting", "(LTallySticks$Chest;LTallySticks$Rules;)V"⟩ prog_6_method_2_code 6 none,
  .code ⟨"TallySticks$Halves", "oddFoils", "(LTallySticks$Chest;LTallySticks$Rules;)I"⟩ prog_6_method_3_code 5 (some .int),
  .code ⟨"TallySticks$Halves", "matchMost", "(LTallySticks$Chest;LTallySticks$Rules;)I"⟩ prog_6_method_4_code 9 (some .int),
  .code ⟨"TallySticks$Halves", "matchFrom", "(III)I"⟩ prog_6_method_5_code 6 (some .int),
  .code ⟨"TallySticks$Halves", "findFoil", "(II)Z"⟩ prog_6_method_6_code 5 (some .boolean),
  .code ⟨"TallySticks$Halves", "fewestFibres", "(LTallySticks$Chest;)I"⟩ prog_6_method_7_code 6 (some .int),
  .code ⟨"TallySticks$Halves", "tellApart", "(II)Z"⟩ prog_6_method_8_code 4 (some .boolean),
  .code ⟨"TallySticks$Halves", "toldCount", "(II)I"⟩ prog_6_method_9_code 5 (some .int),
  .code ⟨"TallySticks$Halves", "toldMost", "(II)I"⟩ prog_6_method_10_code 4 (some .int),
  .code ⟨"TallySticks$Halves", "canHaveTold", "(III)Z"⟩ prog_6_method_11_code 6 (some .boolean),
  .code ⟨"TallySticks$Program", "<init>", "(II)V"⟩ prog_7_method_1_code 3 none,
  .code ⟨"TallySticks$Program", "trimmed", "()LTallySticks$Program;"⟩ prog_7_method_2_code 2 (some (.object "TallySticks$Program")),
  .code ⟨"TallySticks$Program", "headOf", "(II)I"⟩ prog_7_method_3_code 4 (some .int),
  .code ⟨"TallySticks$Program", "clear", "()V"⟩ prog_7_method_4_code 1 none,
  .code ⟨"TallySticks$Program", "openClause", "(I)V"⟩ prog_7_method_5_code 2 none,
  .code ⟨"TallySticks$Program", "markFrom", "(I)V"⟩ prog_7_method_6_code 3 none,
  .code ⟨"TallySticks$Program", "setHead", "(II)V"⟩ prog_7_method_7_code 4 none,
  .code ⟨"TallySticks$Program", "addStep", "(II)V"⟩ prog_7_method_8_code 3 none,
  .code ⟨"TallySticks$Program", "aimStep", "(I)V"⟩ prog_7_method_9_code 2 none,
  .code ⟨"TallySticks$Reader", "<init>", "()V"⟩ prog_8_method_1_code 1 none,
  .code ⟨"TallySticks$Reader", "readText", "([IIZ)I"⟩ prog_8_method_2_code 5 (some .int),
  .code ⟨"TallySticks$Reader", "readLawHead", "()V"⟩ prog_8_method_3_code 1 none,
  .code ⟨"TallySticks$Reader", "readOrderHead", "()V"⟩ prog_8_method_4_code 1 none,
  .code ⟨"TallySticks$Reader", "readOneSum", "(I)V"⟩ prog_8_method_5_code 2 none,
  .code ⟨"TallySticks$Reader", "readTwoSums", "(ILjava/lang/String;)V"⟩ prog_8_method_6_code 3 none,
  .code ⟨"TallySticks$Reader", "readCondition", "()V"⟩ prog_8_method_7_code 1 none,
  .code ⟨"TallySticks$Reader", "readTest", "(I)V"⟩ prog_8_method_8_code 4 none,
  .code ⟨"TallySticks$Reader", "readBoth", "(I)V"⟩ prog_8_method_9_code 4 none,
  .code ⟨"TallySticks$Reader", "readPlain", "(I)V"⟩ prog_8_method_10_code 4 none,
  .code ⟨"TallySticks$Reader", "readSum", "(I)V"⟩ prog_8_method_11_code 4 none,
  .code ⟨"TallySticks$Reader", "readTerm", "(I)V"⟩ prog_8_method_12_code 4 none,
  .code ⟨"TallySticks$Reader", "readPart", "(I)V"⟩ prog_8_method_13_code 2 none,
  .code ⟨"TallySticks$Reader", "readWord", "(I)V"⟩ prog_8_method_14_code 3 none,
  .code ⟨"TallySticks$Reader", "lawWord", "()I"⟩ prog_8_method_15_code 1 (some .int),
  .code ⟨"TallySticks$Reader", "orderWord", "()I"⟩ prog_8_method_16_code 1 (some .int),
  .code ⟨"TallySticks$Reader", "takeComparison", "()I"⟩ prog_8_method_17_code 2 (some .int),
  .code ⟨"TallySticks$Reader", "readNumber", "(II)I"⟩ prog_8_method_18_code 4 (some .int),
  .code ⟨"TallySticks$Reader", "opensBracket", "(CI)Z"⟩ prog_8_method_19_code 3 (some .boolean),
  .code ⟨"TallySticks$Reader", "closeBracket", "(C)V"⟩ prog_8_method_20_code 2 none,
  .code ⟨"TallySticks$Reader", "fail", "()V"⟩ prog_8_method_21_code 1 none,
  .code ⟨"TallySticks$Reader", "isSign", "(C)Z"⟩ prog_8_method_22_code 2 (some .boolean),
  .code ⟨"TallySticks$Reader", "takeSign", "(C)Z"⟩ prog_8_method_23_code 2 (some .boolean),
  .code ⟨"TallySticks$Reader", "isWord", "(Ljava/lang/String;)Z"⟩ prog_8_method_24_code 3 (some .boolean),
  .code ⟨"TallySticks$Reader", "takeWord", "(Ljava/lang/String;)Z"⟩ prog_8_method_25_code 2 (some .boolean),
  .code ⟨"TallySticks$Reader", "advance", "()V"⟩ prog_8_method_26_code 2 none,
  .code ⟨"TallySticks$Rules", "<init>", "()V"⟩ prog_9_method_1_code 1 none,
  .code ⟨"TallySticks$Rules", "startOrders", "(LTallySticks$Chest;)V"⟩ prog_9_method_2_code 2 none,
  .code ⟨"TallySticks$Rules", "payOf", "(LTallySticks$Chest;I)I"⟩ prog_9_method_3_code 3 (some .int),
  .code ⟨"TallySticks$Rules", "wearOf", "(LTallySticks$Chest;I)I"⟩ prog_9_method_4_code 3 (some .int),
  .code ⟨"TallySticks$Rules", "clamp", "(II)I"⟩ prog_9_method_5_code 2 (some .int),
  .code ⟨"TallySticks$Rules", "lastTold", "(LTallySticks$Chest;III)I"⟩ prog_9_method_6_code 9 (some .int),
  .code ⟨"TallySticks$Rules", "isBarred", "(LTallySticks$Chest;II)Z"⟩ prog_9_method_7_code 6 (some .boolean),
  .code ⟨"TallySticks$Rules", "tryGive", "(LTallySticks$Chest;II)I"⟩ prog_9_method_8_code 5 (some .int),
  .code ⟨"TallySticks$Rules", "tryCall", "(LTallySticks$Chest;I)I"⟩ prog_9_method_9_code 4 (some .int),
  .code ⟨"TallySticks$Rules", "tryShave", "(LTallySticks$Chest;II)I"⟩ prog_9_method_10_code 4 (some .int),
  .code ⟨"TallySticks$Rules", "tryPass", "(LTallySticks$Chest;)I"⟩ prog_9_method_11_code 2 (some .int),
  .code ⟨"TallySticks$Rules", "compute", "(LTallySticks$Program;II)I"⟩ prog_9_method_12_code 9 (some .int),
  .code ⟨"TallySticks$Rules", "combine", "(III)I"⟩ prog_9_method_13_code 5 (some .int),
  .code ⟨"TallySticks$Rules", "wordValue", "(II)I"⟩ prog_9_method_14_code 4 (some .int),
  .code ⟨"TallySticks", "<init>", "()V"⟩ prog_1_method_1_code 1 none,
  .code ⟨"TallySticks", "person", "(I)I"⟩ prog_1_method_2_code 2 (some .int),
  .code ⟨"TallySticks", "of", "(II)I"⟩ prog_1_method_3_code 3 (some .int),
  .code ⟨"TallySticks", "stick", "(IIIIII)I"⟩ prog_1_method_4_code 7 (some .int),
  .code ⟨"TallySticks", "at", "(II)I"⟩ prog_1_method_5_code 3 (some .int),
  .code ⟨"TallySticks", "foil", "(II)I"⟩ prog_1_method_6_code 3 (some .int),
  .code ⟨"TallySticks", "half", "(II)I"⟩ prog_1_method_7_code 3 (some .int),
  .code ⟨"TallySticks", "terms", "(II)I"⟩ prog_1_method_8_code 4 (some .int),
  .code ⟨"TallySticks", "feed", "(IIIII)I"⟩ prog_1_method_9_code 6 (some .int),
  .code ⟨"TallySticks", "end", "(I)I"⟩ prog_1_method_10_code 2 (some .int),
  .code ⟨"TallySticks", "row", "()I"⟩ prog_1_method_11_code 5 (some .int),
  .code ⟨"TallySticks", "chips", "()I"⟩ prog_1_method_12_code 1 (some .int),
  .code ⟨"TallySticks", "law", "()I"⟩ prog_1_method_13_code 2 (some .int),
  .code ⟨"TallySticks", "orders", "()I"⟩ prog_1_method_14_code 5 (some .int),
  .code ⟨"TallySticks", "fault", "()I"⟩ prog_1_method_15_code 1 (some .int),
  .code ⟨"TallySticks", "stopped", "()I"⟩ prog_1_method_16_code 1 (some .int),
  .code ⟨"TallySticks", "force", "(I)I"⟩ prog_1_method_17_code 3 (some .int),
  .code ⟨"TallySticks", "asks", "(II)I"⟩ prog_1_method_18_code 3 (some .int),
  .code ⟨"TallySticks", "give", "(II)I"⟩ prog_1_method_19_code 3 (some .int),
  .code ⟨"TallySticks", "call", "(I)I"⟩ prog_1_method_20_code 2 (some .int),
  .code ⟨"TallySticks", "shave", "(II)I"⟩ prog_1_method_21_code 3 (some .int),
  .code ⟨"TallySticks", "pass", "()I"⟩ prog_1_method_22_code 1 (some .int),
  .code ⟨"TallySticks", "undo", "()I"⟩ prog_1_method_23_code 1 (some .int),
  .code ⟨"TallySticks", "fit", "(III)I"⟩ prog_1_method_24_code 4 (some .int),
  .code ⟨"TallySticks", "match", "(I)I"⟩ prog_1_method_25_code 3 (some .int),
  .code ⟨"TallySticks", "odd", "()I"⟩ prog_1_method_26_code 1 (some .int),
  .code ⟨"TallySticks", "apart", "(I)I"⟩ prog_1_method_27_code 3 (some .int),
  .code ⟨"TallySticks", "told", "(III)I"⟩ prog_1_method_28_code 4 (some .int),
  .code ⟨"TallySticks", "settle", "(I)I"⟩ prog_1_method_29_code 3 (some .int),
  .code ⟨"TallySticks", "ring", "(I)I"⟩ prog_1_method_30_code 3 (some .int),
  .code ⟨"TallySticks", "chain", "(II)I"⟩ prog_1_method_31_code 3 (some .int),
  .code ⟨"TallySticks", "calls", "(I)I"⟩ prog_1_method_32_code 2 (some .int),
  .code ⟨"TallySticks", "years", "(II)I"⟩ prog_1_method_33_code 8 (some .int),
  .code ⟨"TallySticks", "drawn", "(II)I"⟩ prog_1_method_34_code 4 (some .int),
  .code ⟨"TallySticks", "image", "(I)I"⟩ prog_1_method_35_code 3 (some .int),
  .code ⟨"TallySticks", "back", "(I)I"⟩ prog_1_method_36_code 3 (some .int),
  .code ⟨"TallySticks", "count", "(I)I"⟩ prog_1_method_37_code 2 (some .int),
  .code ⟨"TallySticks", "status", "()I"⟩ prog_1_method_38_code 1 (some .int),
  .code ⟨"TallySticks", "isSum", "(I)Z"⟩ prog_1_method_39_code 1 (some .boolean),
  .code ⟨"TallySticks", "isGrain", "(I)Z"⟩ prog_1_method_40_code 1 (some .boolean),
  .code ⟨"TallySticks", "lastOfTerm", "(I)I"⟩ prog_1_method_41_code 1 (some .int),
  .code ⟨"TallySticks", "accept", "(I)I"⟩ prog_1_method_42_code 2 (some .int),
  .code ⟨"TallySticks", "refuse", "(I)I"⟩ prog_1_method_43_code 3 (some .int),
  .code ⟨"TallySticks", "answer", "(I)I"⟩ prog_1_method_44_code 2 (some .int),
  .code ⟨"TallySticks", "perform", "(III)I"⟩ prog_1_method_45_code 5 (some .int),
  .code ⟨"TallySticks", "runOrder", "(LTallySticks$Program;I)Z"⟩ prog_1_method_46_code 9 (some .boolean),
  .code ⟨"TallySticks", "nextDraw", "(I)I"⟩ prog_1_method_47_code 1 (some .int),
  .code ⟨"TallySticks", "emptyTape", "()I"⟩ prog_1_method_48_code 2 (some .int),
  .code ⟨"TallySticks", "putBytes", "(I)V"⟩ prog_1_method_49_code 3 none,
  .code ⟨"TallySticks", "cutFoil", "(III)Z"⟩ prog_1_method_50_code 4 (some .boolean),
  .code ⟨"TallySticksModel", "lies", "(III)Z"⟩ prog_11_method_1_code 3 (some .boolean),
  .code ⟨"TallySticksModel", "refuses", "(I)I"⟩ prog_11_method_2_code 2 (some .int),
  .code ⟨"TallySticksModel", "good", "(I)I"⟩ prog_11_method_3_code 2 (some .int),
  .code ⟨"TallySticksModel", "settled", "(I)I"⟩ prog_11_method_4_code 2 (some .int),
  .code ⟨"TallySticksModel", "isIn", "(II)Z"⟩ prog_11_method_5_code 2 (some .boolean),
  .code ⟨"TallySticksModel", "ones", "(I)I"⟩ prog_11_method_6_code 3 (some .int),
  .code ⟨"TallySticksModel", "lesser", "(II)I"⟩ prog_11_method_7_code 2 (some .int),
  .code ⟨"TallySticksModel", "greater", "(II)I"⟩ prog_11_method_8_code 2 (some .int),
  .code ⟨"TallySticksModel", "<init>", "()V"⟩ prog_11_method_9_code 1 none,
  .code ⟨"TallySticksModel", "laysAside", "(I)V"⟩ prog_11_method_10_code 3 none,
  .code ⟨"TallySticksModel", "takesBack", "(I)V"⟩ prog_11_method_11_code 3 none,
  .code ⟨"TallySticksModel", "image", "(I)I"⟩ prog_11_method_12_code 3 (some .int),
  .code ⟨"TallySticksModel", "back", "(I)I"⟩ prog_11_method_13_code 3 (some .int),
  .code ⟨"TallySticksModel", "isPerson", "(I)Z"⟩ prog_11_method_14_code 2 (some .boolean),
  .code ⟨"TallySticksModel", "isStick", "(I)Z"⟩ prog_11_method_15_code 2 (some .boolean),
  .code ⟨"TallySticksModel", "isFoil", "(I)Z"⟩ prog_11_method_16_code 2 (some .boolean),
  .code ⟨"TallySticksModel", "isPaid", "(I)Z"⟩ prog_11_method_17_code 2 (some .boolean),
  .code ⟨"TallySticksModel", "isGrain", "(I)Z"⟩ prog_11_method_18_code 1 (some .boolean),
  .code ⟨"TallySticksModel", "person", "(I)I"⟩ prog_11_method_19_code 3 (some .int),
  .code ⟨"TallySticksModel", "netOf", "(I)I"⟩ prog_11_method_20_code 4 (some .int),
  .code ⟨"TallySticksModel", "manyOf", "(II)I"⟩ prog_11_method_21_code 5 (some .int),
  .code ⟨"TallySticksModel", "of", "(II)I"⟩ prog_11_method_22_code 3 (some .int),
  .code ⟨"TallySticksModel", "stick", "(IIIIII)I"⟩ prog_11_method_23_code 8 (some .int),
  .code ⟨"TallySticksModel", "at", "(II)I"⟩ prog_11_method_24_code 3 (some .int),
  .code ⟨"TallySticksModel", "canFoil", "(II)Z"⟩ prog_11_method_25_code 3 (some .boolean),
  .code ⟨"TallySticksModel", "addsFoil", "(II)V"⟩ prog_11_method_26_code 3 none,
  .code ⟨"TallySticksModel", "foil", "(II)I"⟩ prog_11_method_27_code 3 (some .int),
  .code ⟨"TallySticksModel", "half", "(II)I"⟩ prog_11_method_28_code 3 (some .int),
  .code ⟨"TallySticksModel", "terms", "(II)I"⟩ prog_11_method_29_code 5 (some .int),
  .code ⟨"TallySticksModel", "row", "()I"⟩ prog_11_method_30_code 8 (some .int),
  .code ⟨"TallySticksModel", "chips", "()I"⟩ prog_11_method_31_code 1 (some .int),
  .code ⟨"TallySticksModel", "feed", "(IIIII)I"⟩ prog_11_method_32_code 7 (some .int),
  .code ⟨"TallySticksModel", "end", "(I)I"⟩ prog_11_method_33_code 2 (some .int),
  .code ⟨"TallySticksModel", "isSmall", "(I)Z"⟩ prog_11_method_34_code 1 (some .boolean),
  .code ⟨"TallySticksModel", "isDigit", "(I)Z"⟩ prog_11_method_35_code 1 (some .boolean),
  .code ⟨"TallySticksModel", "wordOf", "(II)I"⟩ prog_11_method_36_code 8 (some .int),
  .code ⟨"TallySticksModel", "splits", "(I)V"⟩ prog_11_method_37_code 6 none,
  .code ⟨"TallySticksModel", "fine", "()Z"⟩ prog_11_method_38_code 1 (some .boolean),
  .code ⟨"TallySticksModel", "faults", "()V"⟩ prog_11_method_39_code 1 none,
  .code ⟨"TallySticksModel", "takes0", "(I)Z"⟩ prog_11_method_40_code 3 (some .boolean),
  .code ⟨"TallySticksModel", "must", "(I)V"⟩ prog_11_method_41_code 2 none,
  .code ⟨"TallySticksModel", "leaf", "()V"⟩ prog_11_method_42_code 1 none,
  .code ⟨"TallySticksModel", "sign", "(C)I"⟩ prog_11_method_43_code 1 (some .int),
  .code ⟨"TallySticksModel", "mustNumber", "(II)V"⟩ prog_11_method_44_code 3 none,
  .code ⟨"TallySticksModel", "readClause", "()V"⟩ prog_11_method_45_code 1 none,
  .code ⟨"TallySticksModel", "readOrder", "()V"⟩ prog_11_method_46_code 1 none,
  .code ⟨"TallySticksModel", "readOne", "()V"⟩ prog_11_method_47_code 1 none,
  .code ⟨"TallySticksModel", "readTest", "(I)V"⟩ prog_11_method_48_code 2 none,
  .code ⟨"TallySticksModel", "readBoth", "(I)V"⟩ prog_11_method_49_code 2 none,
  .code ⟨"TallySticksModel", "readPlain", "(I)V"⟩ prog_11_method_50_code 4 none,
  .code ⟨"TallySticksModel", "readSum", "(I)V"⟩ prog_11_method_51_code 2 none,
  .code ⟨"TallySticksModel", "readTerm", "(I)V"⟩ prog_11_method_52_code 2 none,
  .code ⟨"TallySticksModel", "readPart", "(I)V"⟩ prog_11_method_53_code 3 none,
  .code ⟨"TallySticksModel", "reads", "()Z"⟩ prog_11_method_54_code 2 (some .boolean),
  .code ⟨"TallySticksModel", "readsAs", "(Z)Z"⟩ prog_11_method_55_code 2 (some .boolean),
  .code ⟨"TallySticksModel", "lays", "(I)V"⟩ prog_11_method_56_code 3 none,
  .code ⟨"TallySticksModel", "law", "()I"⟩ prog_11_method_57_code 1 (some .int),
  .code ⟨"TallySticksModel", "fault", "()I"⟩ prog_11_method_58_code 1 (some .int),
  .code ⟨"TallySticksModel", "force", "(I)I"⟩ prog_11_method_59_code 3 (some .int),
  .code ⟨"TallySticksModel", "codeAt", "(I)I"⟩ prog_11_method_60_code 2 (some .int),
  .code ⟨"TallySticksModel", "passes0", "(I)Z"⟩ prog_11_method_61_code 3 (some .boolean),
  .code ⟨"TallySticksModel", "bounded", "(JZ)J"⟩ prog_11_method_62_code 4 (some .long),
  .code ⟨"TallySticksModel", "sumOf", "(Z)J"⟩ prog_11_method_63_code 7 (some .long),
  .code ⟨"TallySticksModel", "termOf", "(Z)J"⟩ prog_11_method_64_code 7 (some .long),
  .code ⟨"TallySticksModel", "partOf", "(Z)J"⟩ prog_11_method_65_code 4 (some .long),
  .code ⟨"TallySticksModel", "orderValue", "(II)I"⟩ prog_11_method_66_code 3 (some .int),
  .code ⟨"TallySticksModel", "testOf", "(Z)Z"⟩ prog_11_method_67_code 4 (some .boolean),
  .code ⟨"TallySticksModel", "bothOf", "(Z)Z"⟩ prog_11_method_68_code 4 (some .boolean),
  .code ⟨"TallySticksModel", "plainOf", "(Z)Z"⟩ prog_11_method_69_code 3 (some .boolean),
  .code ⟨"TallySticksModel", "positiveOf", "(Z)Z"⟩ prog_11_method_70_code 7 (some .boolean),
  .code ⟨"TallySticksModel", "tells", "(IIIII)I"⟩ prog_11_method_71_code 13 (some .int),
  .code ⟨"TallySticksModel", "paysBy", "(I)I"⟩ prog_11_method_72_code 2 (some .int),
  .code ⟨"TallySticksModel", "wornIn", "(I)I"⟩ prog_11_method_73_code 2 (some .int),
  .code ⟨"TallySticksModel", "isBarred", "(II)Z"⟩ prog_11_method_74_code 3 (some .boolean),
  .code ⟨"TallySticksModel", "asks", "(II)I"⟩ prog_11_method_75_code 3 (some .int),
  .code ⟨"TallySticksModel", "canGive", "(II)Z"⟩ prog_11_method_76_code 3 (some .boolean),
  .code ⟨"TallySticksModel", "gives", "(II)I"⟩ prog_11_method_77_code 4 (some .int),
  .code ⟨"TallySticksModel", "moves", "(II)V"⟩ prog_11_method_78_code 3 none,
  .code ⟨"TallySticksModel", "isDue", "(I)Z"⟩ prog_11_method_79_code 2 (some .boolean),
  .code ⟨"TallySticksModel", "canCall", "(I)Z"⟩ prog_11_method_80_code 2 (some .boolean),
  .code ⟨"TallySticksModel", "calls0", "(I)I"⟩ prog_11_method_81_code 3 (some .int),
  .code ⟨"TallySticksModel", "keeps", "(I)V"⟩ prog_11_method_82_code 4 none,
  .code ⟨"TallySticksModel", "undo", "()I"⟩ prog_11_method_83_code 3 (some .int),
  .code ⟨"TallySticksModel", "goodOr", "(I)I"⟩ prog_11_method_84_code 2 (some .int),
  .code ⟨"TallySticksModel", "givesKept", "(II)I"⟩ prog_11_method_85_code 3 (some .int),
  .code ⟨"TallySticksModel", "callsKept", "(I)I"⟩ prog_11_method_86_code 2 (some .int),
  .code ⟨"TallySticksModel", "shavesKept", "(II)I"⟩ prog_11_method_87_code 3 (some .int),
  .code ⟨"TallySticksModel", "passesKept", "()I"⟩ prog_11_method_88_code 1 (some .int),
  .code ⟨"TallySticksModel", "give", "(II)I"⟩ prog_11_method_89_code 3 (some .int),
  .code ⟨"TallySticksModel", "call", "(I)I"⟩ prog_11_method_90_code 2 (some .int),
  .code ⟨"TallySticksModel", "shave", "(II)I"⟩ prog_11_method_91_code 3 (some .int),
  .code ⟨"TallySticksModel", "pass", "()I"⟩ prog_11_method_92_code 1 (some .int),
  .code ⟨"TallySticksModel", "unlike", "(II)I"⟩ prog_11_method_93_code 3 (some .int),
  .code ⟨"TallySticksModel", "doesFit", "(II)Z"⟩ prog_11_method_94_code 3 (some .boolean),
  .code ⟨"TallySticksModel", "fit", "(III)I"⟩ prog_11_method_95_code 4 (some .int),
  .code ⟨"TallySticksModel", "laysFits", "()V"⟩ prog_11_method_96_code 3 none,
  .code ⟨"TallySticksModel", "mostAt", "(II)I"⟩ prog_11_method_97_code 3 (some .int),
  .code ⟨"TallySticksModel", "laysMost", "()V"⟩ prog_11_method_98_code 6 none,
  .code ⟨"TallySticksModel", "firstFoil", "(II)I"⟩ prog_11_method_99_code 4 (some .int),
  .code ⟨"TallySticksModel", "match", "(I)I"⟩ prog_11_method_100_code 5 (some .int),
  .code ⟨"TallySticksModel", "odd", "()I"⟩ prog_11_method_101_code 5 (some .int),
  .code ⟨"TallySticksModel", "tellsApart", "(I)Z"⟩ prog_11_method_102_code 5 (some .boolean),
  .code ⟨"TallySticksModel", "apart", "(I)I"⟩ prog_11_method_103_code 4 (some .int),
  .code ⟨"TallySticksModel", "notchesAbove", "(II)I"⟩ prog_11_method_104_code 5 (some .int),
  .code ⟨"TallySticksModel", "told", "(III)I"⟩ prog_11_method_105_code 9 (some .int),
  .code ⟨"TallySticksModel", "areEven", "(I)Z"⟩ prog_11_method_106_code 4 (some .boolean),
  .code ⟨"TallySticksModel", "triesGroup", "(II)V"⟩ prog_11_method_107_code 4 none,
  .code ⟨"TallySticksModel", "laysNets", "()I"⟩ prog_11_method_108_code 3 (some .int),
  .code ⟨"TallySticksModel", "settle", "(I)I"⟩ prog_11_method_109_code 3 (some .int),
  .code ⟨"TallySticksModel", "comesRound", "(III)Z"⟩ prog_11_method_110_code 6 (some .boolean),
  .code ⟨"TallySticksModel", "hasRing", "(I)Z"⟩ prog_11_method_111_code 3 (some .boolean),
  .code ⟨"TallySticksModel", "ring", "(I)I"⟩ prog_11_method_112_code 3 (some .int),
  .code ⟨"TallySticksModel", "chain", "(II)I"⟩ prog_11_method_113_code 7 (some .int),
  .code ⟨"TallySticksModel", "triesCall", "(I)V"⟩ prog_11_method_114_code 3 none,
  .code ⟨"TallySticksModel", "manyDue", "()I"⟩ prog_11_method_115_code 3 (some .int),
  .code ⟨"TallySticksModel", "calls", "(I)I"⟩ prog_11_method_116_code 2 (some .int),
  .code ⟨"TallySticksModel", "stopped", "()I"⟩ prog_11_method_117_code 1 (some .int),
  .code ⟨"TallySticksModel", "orders", "()I"⟩ prog_11_method_118_code 5 (some .int),
  .code ⟨"TallySticksModel", "goesAlong", "(IZ)V"⟩ prog_11_method_119_code 5 none,
  .code ⟨"TallySticksModel", "small", "(J)I"⟩ prog_11_method_120_code 2 (some .int),
  .code ⟨"TallySticksModel", "obeys", "()I"⟩ prog_11_method_121_code 4 (some .int),
  .code ⟨"TallySticksModel", "runs", "(I)Z"⟩ prog_11_method_122_code 5 (some .boolean),
  .code ⟨"TallySticksModel", "draws", "(I)I"⟩ prog_11_method_123_code 2 (some .int),
  .code ⟨"TallySticksModel", "callsOrGives", "(II)Z"⟩ prog_11_method_124_code 3 (some .boolean),
  .code ⟨"TallySticksModel", "laysDrawn", "()V"⟩ prog_11_method_125_code 2 none,
  .code ⟨"TallySticksModel", "years", "(II)I"⟩ prog_11_method_126_code 7 (some .int),
  .code ⟨"TallySticksModel", "drawn", "(II)I"⟩ prog_11_method_127_code 3 (some .int),
  .code ⟨"TallySticksModel", "manyPaid", "()I"⟩ prog_11_method_128_code 3 (some .int),
  .code ⟨"TallySticksModel", "count", "(I)I"⟩ prog_11_method_129_code 2 (some .int),
  .code ⟨"TallySticksModel", "status", "()I"⟩ prog_11_method_130_code 1 (some .int),
  .code ⟨"java/lang/Integer", "bitCount", "(I)I"⟩ prog_12_method_49_code 1 (some .int),
  .code ⟨"java/lang/Math", "max", "(II)I"⟩ prog_13_method_65_code 2 (some .int),
  .code ⟨"java/lang/Math", "min", "(II)I"⟩ prog_13_method_69_code 2 (some .int),
  .code ⟨"TallySticksLaw", "law", "([I)Z"⟩ code 4 (some .boolean)]
def yOf : Cond → MethodName | .code y _ _ _ => y | _ => ⟨"", "", ""⟩
def bOf : Cond → ByteArray | .code _ b _ _ => b | _ => ⟨#[]⟩
def nOf : Cond → Nat | .code _ _ n _ => n | _ => 0
def rOf : Cond → Option FieldType | .code _ _ _ r => r | _ => none
abbrev cNo (m : Nat) : Nat := mcl.getD m 99
abbrev cbT (m : Nat) : Cond := CB.getD m (.code ⟨"", "", ""⟩ ⟨#[]⟩ 0 none)
abbrev own (m : Nat) : String := (yOf (cbT m)).cls
abbrev bc (m : Nat) : ByteArray := bOf (cbT m)
abbrev mxL (m : Nat) : Nat := nOf (cbT m)
abbrev rtT (m : Nat) : Option FieldType := rOf (cbT m)
abbrev yT (m : Nat) : MethodName := yOf (cbT m)
theorem ckO : ∀ m, m < 277 → own m = cnm.getD (cNo m) "" := by decide +kernel
theorem ckW : ∀ m, m < 277 → k2_isCode (cbT m) = true := by decide +kernel
theorem cb_eta {w : Cond} (h : k2_isCode w = true) : w = .code (yOf w) (bOf w) (nOf w) (rOf w) := by
  cases w <;> first | rfl | (simp [k2_isCode] at h; done)
/-- program, entry, the field's program, its place, of a nest mate, where the word is -/
def FL : List (Nat × Nat × Nat × Nat × Nat × Nat) := [(1, 55, 1, 0, 0, 205), (2, 27, 1, 0, 1, 206), (8, 86, 1, 0, 1, 207), (7, 130, 1, 0, 1, 208), (1, 9, 1, 1, 0, 209), (8, 103, 1, 1, 1, 210), (0, 62, 1, 1, 1, 211), (3, 43, 1, 1, 1, 212), (7, 127, 1, 1, 1, 213), (4, 24, 1, 2, 1, 214), (1, 58, 1, 2, 0, 215), (0, 34, 1, 2, 1, 216), (8, 125, 1, 2, 1, 217), (2, 60, 1, 2, 1, 218), (7, 133, 1, 2, 1, 219), (1, 15, 1, 3, 0, 220), (0, 56, 1, 3, 1, 221), (8, 116, 1, 3, 1, 222), (3, 46, 1, 3, 1, 223), (2, 67, 1, 3, 1, 224), (7, 90, 1, 3, 1, 225), (1, 18, 1, 4, 0, 226), (8, 109, 1, 4, 1, 227), (0, 59, 1, 4, 1, 228), (3, 34, 1, 4, 1, 229), (2, 74, 1, 4, 1, 230), (7, 80, 1, 4, 1, 231), (1, 21, 1, 5, 0, 232), (7, 29, 1, 5, 1, 233), (3, 40, 1, 5, 1, 234), (8, 135, 1, 5, 1, 235), (1, 24, 1, 6, 0, 236), (8, 138, 1, 6, 1, 237), (4, 58, 1, 6, 1, 238), (1, 27, 1, 7, 0, 239), (8, 141, 1, 7, 1, 240), (7, 121, 1, 7, 1, 241), (1, 30, 1, 8, 0, 242), (8, 144, 1, 8, 1, 243), (7, 124, 1, 8, 1, 244), (1, 33, 1, 9, 0, 245), (0, 53, 1, 9, 1, 246), (3, 37, 1, 9, 1, 247), (8, 147, 1, 9, 1, 248), (7, 93, 1, 9, 1, 249), (1, 61, 1, 10, 0, 250), (4, 36, 1, 10, 1, 251), (8, 157, 1, 10, 1, 252), (1, 36, 1, 11, 0, 253), (8, 167, 1, 11, 1, 254), (1, 39, 1, 12, 0, 255), (8, 170, 1, 12, 1, 256), (1, 42, 1, 13, 0, 257), (7, 42, 1, 13, 1, 258), (3, 49, 1, 13, 1, 259), (8, 176, 1, 13, 1, 260), (1, 64, 1, 14, 0, 261), (8, 197, 1, 14, 1, 262), (1, 47, 1, 15, 0, 263), (1, 51, 1, 16, 0, 264), (8, 241, 1, 16, 1, 265), (3, 11, 3, 0, 0, 309), (3, 25, 3, 1, 0, 310), (3, 15, 3, 2, 0, 311), (8, 255, 3, 2, 1, 312), (5, 22, 5, 0, 0, 335), (7, 64, 5, 0, 1, 336), (8, 228, 5, 0, 1, 337), (5, 26, 5, 1, 0, 338), (6, 129, 5, 1, 1, 339), (5, 15, 5, 2, 0, 340), (5, 19, 5, 3, 0, 341), (7, 107, 5, 3, 1, 342), (6, 14, 6, 0, 0, 352), (8, 204, 6, 0, 1, 353), (6, 20, 6, 1, 0, 354), (6, 30, 6, 2, 0, 355), (6, 34, 6, 3, 0, 356), (6, 62, 6, 4, 0, 357), (6, 201, 6, 5, 0, 358), (6, 38, 6, 6, 0, 359), (6, 198, 6, 7, 0, 360), (6, 41, 6, 8, 0, 361), (6, 44, 6, 9, 0, 362), (7, 11, 7, 0, 0, 390), (7, 22, 7, 1, 0, 391), (7, 61, 7, 2, 0, 392), (7, 15, 7, 3, 0, 393), (7, 26, 7, 4, 0, 394), (8, 238, 7, 4, 1, 395), (7, 19, 7, 5, 0, 396), (8, 355, 7, 5, 1, 397), (4, 9, 4, 0, 0, 417), (4, 15, 4, 1, 0, 418), (8, 274, 4, 1, 1, 419), (4, 18, 4, 2, 0, 420), (4, 21, 4, 3, 0, 421), (4, 51, 4, 4, 0, 422), (2, 9, 2, 0, 0, 440), (2, 15, 2, 1, 0, 441), (2, 18, 2, 2, 0, 442), (2, 21, 2, 3, 0, 443), (8, 292, 2, 3, 1, 444), (2, 24, 2, 4, 0, 445), (8, 298, 2, 4, 1, 446), (2, 37, 2, 5, 0, 447), (0, 9, 0, 0, 0, 467), (0, 15, 0, 1, 0, 468), (0, 18, 0, 2, 0, 469), (8, 315, 0, 2, 1, 470), (0, 21, 0, 3, 0, 471), (0, 24, 0, 4, 0, 472), (0, 27, 0, 5, 0, 473), (0, 31, 0, 6, 0, 474), (8, 10, 8, 0, 0, 490), (8, 16, 8, 1, 0, 491), (8, 19, 8, 2, 0, 492), (8, 319, 8, 3, 0, 493), (8, 26, 8, 4, 0, 494), (8, 30, 8, 5, 0, 495), (8, 33, 8, 6, 0, 496), (8, 179, 8, 7, 0, 497), (8, 40, 8, 8, 0, 498), (8, 47, 8, 9, 0, 499), (8, 54, 8, 10, 0, 500), (8, 61, 8, 11, 0, 501), (8, 68, 8, 12, 0, 502), (8, 305, 8, 13, 0, 503), (8, 312, 8, 14, 0, 504), (8, 72, 8, 15, 0, 505), (8, 76, 8, 16, 0, 506), (8, 194, 8, 17, 0, 507), (8, 337, 8, 18, 0, 508), (8, 79, 8, 19, 0, 509), (9, 3, 9, 0, 0, 1209), (9, 7, 9, 1, 0, 1210), (9, 24, 9, 2, 0, 1211), (9, 27, 9, 3, 0, 1212), (9, 30, 9, 4, 0, 1213), (9, 34, 9, 5, 0, 1214), (9, 165, 9, 6, 0, 1215), (9, 37, 9, 7, 0, 1216), (9, 239, 9, 8, 0, 1217), (9, 242, 9, 9, 0, 1218), (9, 213, 9, 10, 0, 1219), (9, 41, 9, 11, 0, 1220), (9, 44, 9, 12, 0, 1221), (9, 162, 9, 13, 0, 1222), (9, 47, 9, 14, 0, 1223), (9, 50, 9, 15, 0, 1224), (9, 53, 9, 16, 0, 1225), (9, 56, 9, 17, 0, 1226), (9, 168, 9, 18, 0, 1227), (9, 188, 9, 19, 0, 1228), (9, 197, 9, 20, 0, 1229), (9, 181, 9, 21, 0, 1230), (9, 267, 9, 22, 0, 1231), (9, 264, 9, 23, 0, 1232), (9, 277, 9, 24, 0, 1233), (9, 297, 9, 25, 0, 1234), (9, 59, 9, 26, 0, 1235), (9, 303, 9, 27, 0, 1236), (9, 306, 9, 28, 0, 1237), (9, 62, 9, 29, 0, 1238), (9, 65, 9, 30, 0, 1239), (9, 11, 9, 31, 0, 1240), (9, 68, 9, 32, 0, 1241), (9, 71, 9, 33, 0, 1242), (9, 74, 9, 34, 0, 1243), (9, 77, 9, 35, 0, 1244), (9, 80, 9, 36, 0, 1245), (9, 83, 9, 37, 0, 1246), (9, 401, 9, 38, 0, 1247), (9, 86, 9, 39, 0, 1248), (9, 89, 9, 40, 0, 1249), (9, 92, 9, 41, 0, 1250), (9, 419, 9, 42, 0, 1251), (9, 95, 9, 43, 0, 1252), (9, 434, 9, 44, 0, 1253), (9, 446, 9, 45, 0, 1254), (9, 440, 9, 46, 0, 1255), (9, 443, 9, 47, 0, 1256), (9, 449, 9, 48, 0, 1257), (9, 98, 9, 49, 0, 1258), (9, 102, 9, 50, 0, 1259), (9, 105, 9, 51, 0, 1260), (9, 108, 9, 52, 0, 1261), (9, 111, 9, 53, 0, 1262), (9, 474, 9, 54, 0, 1263), (9, 467, 9, 55, 0, 1264)]
/-- program, entry, the method, of a nest mate, where the word is -/
def MLk : List (Nat × Nat × Nat × Nat × Nat) := [(10, 9, 93, 0, 191), (8, 9, 3, 1, 199), (8, 25, 27, 1, 305), (8, 39, 53, 1, 322), (6, 11, 44, 1, 328), (5, 7, 274, 0, 332), (8, 46, 79, 1, 386), (8, 53, 33, 1, 413), (8, 60, 20, 1, 436), (8, 67, 0, 1, 463), (10, 13, 94, 0, 551), (8, 82, 135, 0, 555), (8, 89, 28, 1, 559), (8, 92, 8, 1, 563), (8, 95, 134, 0, 567), (10, 18, 95, 0, 571), (8, 98, 5, 1, 575), (8, 106, 15, 1, 580), (8, 112, 16, 1, 584), (10, 23, 96, 0, 588), (8, 119, 131, 0, 592), (8, 122, 132, 0, 595), (8, 128, 9, 1, 598), (10, 28, 97, 0, 602), (8, 132, 6, 1, 606), (8, 150, 81, 1, 610), (7, 34, 84, 0, 614), (7, 53, 12, 1, 618), (7, 57, 6, 1, 622), (7, 69, 46, 1, 623), (7, 72, 90, 0, 627), (7, 45, 275, 0, 631), (7, 110, 92, 0, 635), (7, 50, 274, 0, 639), (7, 113, 91, 0, 640), (7, 38, 83, 0, 645), (8, 154, 82, 1, 648), (10, 32, 98, 0, 652), (8, 160, 10, 1, 656), (10, 36, 99, 0, 660), (8, 164, 7, 1, 664), (10, 40, 100, 0, 668), (8, 173, 133, 0, 672), (10, 44, 101, 0, 675), (8, 182, 141, 0, 679), (10, 49, 102, 0, 683), (10, 53, 103, 0, 687), (8, 186, 140, 0, 691), (8, 190, 142, 0, 695), (10, 58, 104, 0, 699), (10, 62, 105, 0, 703), (8, 200, 54, 1, 707), (6, 24, 275, 0, 711), (6, 47, 47, 1, 712), (6, 50, 78, 0, 716), (6, 53, 55, 0, 720), (6, 74, 77, 0, 725), (6, 175, 76, 0, 729), (6, 78, 57, 0, 781), (6, 86, 48, 1, 785), (5, 38, 50, 0, 789), (5, 41, 49, 0, 793), (6, 113, 63, 0, 797), (6, 155, 64, 0, 801), (6, 161, 65, 0, 805), (6, 143, 71, 0, 809), (6, 158, 74, 0, 813), (6, 69, 73, 0, 817), (6, 147, 72, 0, 821), (6, 107, 70, 0, 825), (6, 130, 51, 1, 829), (6, 164, 67, 0, 833), (6, 167, 68, 0, 846), (6, 170, 66, 0, 853), (6, 65, 75, 0, 857), (6, 116, 49, 1, 861), (6, 56, 56, 0, 864), (6, 93, 58, 0, 869), (6, 110, 50, 1, 878), (6, 59, 59, 0, 879), (6, 121, 60, 0, 884), (6, 124, 61, 0, 888), (6, 136, 62, 0, 892), (6, 151, 69, 0, 897), (6, 133, 52, 1, 902), (8, 208, 45, 1, 907), (5, 29, 44, 0, 912), (8, 214, 11, 1, 916), (10, 66, 106, 0, 921), (8, 218, 4, 1, 925), (8, 222, 29, 1, 930), (8, 225, 80, 1, 935), (8, 231, 46, 1, 939), (8, 234, 138, 0, 940), (8, 350, 90, 1, 944), (8, 248, 137, 0, 946), (8, 340, 30, 1, 950), (3, 28, 6, 1, 954), (8, 328, 86, 1, 955), (7, 77, 5, 1, 959), (7, 83, 13, 1, 960), (1, 73, 6, 0, 964), (7, 86, 85, 0, 965), (8, 325, 87, 1, 969), (7, 96, 14, 1, 973), (1, 77, 13, 0, 977), (7, 99, 81, 0, 978), (7, 103, 19, 1, 979), (1, 86, 275, 0, 983), (8, 344, 88, 1, 984), (8, 331, 89, 1, 988), (8, 347, 31, 1, 992), (10, 70, 107, 0, 996), (10, 74, 108, 0, 1000), (10, 78, 109, 0, 1004), (10, 82, 110, 0, 1008), (8, 244, 85, 1, 1012), (10, 86, 111, 0, 1013), (8, 252, 136, 0, 1017), (10, 90, 112, 0, 1021), (10, 94, 113, 0, 1025), (10, 98, 114, 0, 1029), (10, 102, 115, 0, 1033), (8, 258, 32, 1, 1037), (10, 106, 116, 0, 1041), (8, 262, 273, 0, 1045), (8, 267, 18, 1, 1051), (1, 80, 273, 0, 1055), (10, 111, 117, 0, 1056), (8, 270, 36, 1, 1060), (4, 43, 34, 0, 1064), (4, 30, 82, 1, 1068), (4, 39, 18, 1, 1069), (4, 47, 37, 0, 1070), (4, 54, 38, 0, 1074), (10, 115, 118, 0, 1078), (8, 277, 35, 1, 1082), (10, 119, 119, 0, 1086), (8, 280, 39, 1, 1090), (4, 61, 273, 0, 1094), (4, 67, 40, 0, 1095), (10, 123, 120, 0, 1099), (8, 283, 41, 1, 1103), (4, 70, 43, 0, 1107), (8, 286, 42, 1, 1110), (10, 127, 121, 0, 1114), (8, 289, 21, 1, 1118), (2, 33, 15, 1, 1122), (2, 40, 22, 0, 1123), (2, 44, 23, 0, 1127), (2, 48, 275, 0, 1131), (10, 131, 122, 0, 1133), (8, 295, 24, 1, 1137), (2, 63, 13, 1, 1141), (2, 70, 25, 0, 1142), (10, 135, 123, 0, 1146), (8, 301, 26, 1, 1150), (10, 139, 124, 0, 1154), (8, 309, 1, 1, 1158), (0, 39, 14, 1, 1162), (0, 43, 2, 0, 1163), (0, 65, 81, 1, 1168), (0, 71, 19, 1, 1169), (10, 143, 125, 0, 1170), (8, 322, 139, 0, 1175), (10, 147, 126, 0, 1179), (10, 151, 127, 0, 1183), (10, 155, 128, 0, 1187), (10, 159, 129, 0, 1191), (8, 334, 17, 1, 1195), (10, 163, 130, 0, 1199), (10, 12, 151, 0, 1205), (10, 154, 154, 0, 1380), (9, 114, 143, 0, 1384), (9, 118, 144, 0, 1387), (9, 14, 145, 0, 1391), (10, 158, 155, 0, 1395), (9, 121, 146, 0, 1399), (10, 17, 161, 0, 1403), (10, 22, 164, 0, 1407), (9, 128, 156, 0, 1411), (9, 132, 162, 0, 1416), (9, 124, 159, 0, 1420), (9, 135, 163, 0, 1424), (10, 27, 165, 0, 1428), (9, 139, 160, 0, 1432), (10, 31, 166, 0, 1435), (9, 142, 157, 0, 1439), (9, 145, 214, 0, 1443), (9, 321, 213, 0, 1447), (9, 270, 202, 0, 1451), (9, 294, 205, 0, 1455), (9, 280, 206, 0, 1459), (9, 288, 207, 0, 1463), (9, 229, 185, 0, 1467), (9, 291, 203, 0, 1470), (9, 300, 208, 0, 1474), (9, 284, 204, 0, 1478), (9, 318, 209, 0, 1484), (9, 309, 210, 0, 1488), (9, 312, 211, 0, 1492), (9, 315, 212, 0, 1496), (9, 148, 215, 0, 1500), (10, 35, 169, 0, 1504), (9, 151, 167, 0, 1508), (9, 155, 168, 0, 1512), (10, 39, 170, 0, 1516), (9, 159, 158, 0, 1520), (10, 43, 171, 0, 1524), (10, 57, 172, 0, 1528), (10, 61, 173, 0, 1532), (10, 48, 174, 0, 1536), (10, 52, 175, 0, 1540), (10, 65, 199, 0, 1544), (9, 257, 197, 0, 1548), (9, 254, 196, 0, 1552), (9, 248, 179, 0, 1556), (9, 171, 176, 0, 1560), (9, 174, 177, 0, 1563), (9, 177, 178, 0, 1566), (9, 251, 189, 0, 1571), (9, 217, 188, 0, 1575), (9, 191, 182, 0, 1579), (9, 184, 180, 0, 1583), (9, 200, 193, 0, 1587), (9, 233, 194, 0, 1591), (9, 236, 195, 0, 1595), (9, 194, 181, 0, 1599), (9, 204, 183, 0, 1603), (9, 245, 184, 0, 1607), (9, 210, 186, 0, 1611), (9, 207, 190, 0, 1615), (9, 223, 191, 0, 1619), (9, 226, 192, 0, 1623), (9, 220, 187, 0, 1627), (9, 261, 198, 0, 1631), (10, 73, 200, 0, 1635), (10, 81, 201, 0, 1639), (10, 85, 217, 0, 1643), (9, 325, 216, 0, 1647), (10, 105, 225, 0, 1651), (10, 89, 231, 0, 1655), (9, 352, 227, 0, 1659), (9, 337, 218, 0, 1663), (9, 340, 224, 0, 1667), (9, 343, 219, 0, 1671), (9, 355, 226, 0, 1675), (10, 93, 232, 0, 1679), (9, 358, 228, 0, 1683), (9, 346, 222, 0, 1687), (9, 331, 221, 0, 1691), (9, 349, 223, 0, 1695), (9, 334, 220, 0, 1699), (9, 328, 149, 0, 1703), (10, 97, 233, 0, 1706), (9, 361, 229, 0, 1710), (10, 101, 234, 0, 1714), (9, 364, 230, 0, 1718), (10, 110, 237, 0, 1722), (9, 371, 235, 0, 1726), (9, 368, 148, 0, 1730), (9, 374, 236, 0, 1733), (10, 114, 242, 0, 1737), (9, 389, 240, 0, 1741), (9, 377, 238, 0, 1745), (9, 380, 239, 0, 1749), (9, 383, 147, 0, 1753), (9, 386, 150, 0, 1756), (9, 392, 241, 0, 1759), (10, 118, 243, 0, 1763), (10, 122, 245, 0, 1767), (9, 395, 244, 0, 1771), (10, 126, 247, 0, 1775), (9, 398, 246, 0, 1779), (10, 130, 251, 0, 1782), (9, 410, 250, 0, 1786), (9, 407, 249, 0, 1790), (9, 404, 248, 0, 1794), (10, 134, 254, 0, 1798), (9, 416, 253, 0, 1802), (9, 413, 252, 0, 1806), (10, 138, 255, 0, 1810), (10, 142, 258, 0, 1814), (9, 431, 257, 0, 1818), (9, 425, 256, 0, 1822), (9, 422, 152, 0, 1826), (9, 428, 153, 0, 1830), (10, 77, 259, 0, 1834), (10, 69, 260, 0, 1838), (9, 437, 264, 0, 1842), (9, 458, 261, 0, 1846), (9, 462, 263, 0, 1850), (9, 454, 262, 0, 1854), (10, 146, 268, 0, 1858), (9, 477, 265, 0, 1862), (9, 480, 266, 0, 1869), (9, 483, 267, 0, 1873), (10, 150, 269, 0, 1877), (10, 162, 271, 0, 1881), (9, 486, 270, 0, 1885), (10, 166, 272, 0, 1889)]
/-- a method: where its code word is, its object or static word, its selects word, its program's initialized word -/
def MT : List (Nat × Nat × Nat × Nat) := [(465, 464, 0, 181), (1161, 1160, 87, 181), (1166, 1165, 88, 181), (201, 200, 0, 173), (928, 927, 54, 173), (578, 577, 4, 173), (609, 608, 8, 173), (667, 666, 17, 173), (566, 565, 2, 173), (601, 600, 7, 173), (659, 658, 16, 173), (919, 918, 53, 173), (621, 620, 11, 173), (963, 962, 61, 173), (976, 975, 64, 173), (583, 582, 5, 173), (587, 586, 6, 173), (1198, 1197, 89, 173), (1054, 1053, 71, 173), (982, 981, 65, 173), (438, 437, 0, 180), (1121, 1120, 81, 180), (1126, 1125, 82, 180), (1130, 1129, 83, 180), (1140, 1139, 84, 180), (1145, 1144, 85, 180), (1153, 1152, 86, 180), (307, 306, 0, 174), (562, 561, 1, 174), (933, 932, 55, 174), (953, 952, 59, 174), (995, 994, 68, 174), (1040, 1039, 70, 174), (415, 414, 0, 179), (1067, 1066, 73, 179), (1085, 1084, 76, 179), (1063, 1062, 72, 179), (1073, 1072, 74, 179), (1077, 1076, 75, 179), (1093, 1092, 77, 179), (1098, 1097, 78, 179), (1106, 1105, 79, 179), (1113, 1112, 80, 179), (1109, 1108, 0, 179), (330, 329, 0, 176), (910, 909, 52, 176), (626, 625, 12, 176), (715, 714, 22, 176), (788, 787, 28, 176), (796, 795, 30, 176), (792, 791, 29, 176), (832, 831, 39, 176), (905, 904, 51, 176), (324, 323, 0, 175), (710, 709, 21, 175), (723, 722, 24, 175), (867, 866, 44, 175), (784, 783, 27, 175), (872, 871, 45, 175), (882, 881, 46, 175), (887, 886, 47, 175), (891, 890, 48, 175), (895, 894, 49, 175), (800, 799, 31, 175), (804, 803, 32, 175), (808, 807, 33, 175), (856, 855, 42, 175), (836, 835, 40, 175), (849, 848, 41, 175), (900, 899, 50, 175), (828, 827, 38, 175), (812, 811, 34, 175), (824, 823, 37, 175), (820, 819, 36, 175), (816, 815, 35, 175), (860, 859, 43, 175), (732, 731, 26, 175), (728, 727, 25, 175), (719, 718, 23, 175), (388, 387, 0, 178), (938, 937, 56, 178), (613, 612, 9, 178), (651, 650, 15, 178), (647, 646, 0, 178), (617, 616, 10, 178), (968, 967, 62, 178), (958, 957, 60, 178), (972, 971, 63, 178), (987, 986, 66, 178), (991, 990, 67, 178), (630, 629, 13, 178), (642, 641, 0, 178), (638, 637, 14, 178), (193, 192, 0, 172), (554, 552, 553, 172), (574, 572, 573, 172), (591, 589, 590, 172), (605, 603, 604, 172), (655, 653, 654, 172), (663, 661, 662, 172), (671, 669, 670, 172), (678, 676, 677, 172), (686, 684, 685, 172), (690, 688, 689, 172), (702, 700, 701, 172), (706, 704, 705, 172), (924, 922, 923, 172), (999, 997, 998, 172), (1003, 1001, 1002, 172), (1007, 1005, 1006, 172), (1011, 1009, 1010, 172), (1016, 1014, 1015, 172), (1024, 1022, 1023, 172), (1028, 1026, 1027, 172), (1032, 1030, 1031, 172), (1036, 1034, 1035, 172), (1044, 1042, 1043, 172), (1059, 1057, 1058, 172), (1081, 1079, 1080, 172), (1089, 1087, 1088, 172), (1102, 1100, 1101, 172), (1117, 1115, 1116, 172), (1136, 1134, 1135, 172), (1149, 1147, 1148, 172), (1157, 1155, 1156, 172), (1173, 1171, 1172, 172), (1182, 1180, 1181, 172), (1186, 1184, 1185, 172), (1190, 1188, 1189, 172), (1194, 1192, 1193, 172), (1202, 1200, 1201, 172), (594, 593, 0, 172), (597, 596, 0, 172), (674, 673, 0, 172), (570, 569, 3, 172), (558, 557, 0, 172), (1020, 1019, 69, 172), (949, 948, 58, 172), (943, 942, 57, 172), (1177, 1176, 0, 172), (694, 693, 19, 172), (682, 681, 18, 172), (698, 697, 20, 172), (1386, 1385, 0, 182), (1390, 1389, 90, 182), (1394, 1393, 91, 182), (1402, 1401, 92, 182), (1755, 1754, 0, 182), (1732, 1731, 0, 182), (1705, 1704, 0, 182), (1758, 1757, 0, 182), (1207, 1206, 0, 182), (1829, 1828, 162, 182), (1833, 1832, 163, 182), (1383, 1381, 1382, 182), (1398, 1396, 1397, 182), (1414, 1413, 93, 182), (1442, 1441, 97, 182), (1523, 1522, 114, 182), (1423, 1422, 95, 182), (1434, 1433, 0, 182), (1406, 1404, 1405, 182), (1419, 1418, 94, 182), (1427, 1426, 96, 182), (1410, 1408, 1409, 182), (1431, 1429, 1430, 182), (1438, 1436, 1437, 182), (1511, 1510, 112, 182), (1515, 1514, 113, 182), (1507, 1505, 1506, 182), (1519, 1517, 1518, 182), (1527, 1525, 1526, 182), (1531, 1529, 1530, 182), (1535, 1533, 1534, 182), (1539, 1537, 1538, 182), (1543, 1541, 1542, 182), (1562, 1561, 0, 182), (1565, 1564, 0, 182), (1569, 1568, 118, 182), (1559, 1558, 117, 182), (1586, 1585, 122, 182), (1602, 1601, 126, 182), (1582, 1581, 121, 182), (1606, 1605, 127, 182), (1610, 1609, 128, 182), (1469, 1468, 0, 182), (1614, 1613, 129, 182), (1630, 1629, 133, 182), (1578, 1577, 120, 182), (1574, 1573, 119, 182), (1618, 1617, 130, 182), (1622, 1621, 131, 182), (1626, 1625, 132, 182), (1590, 1589, 123, 182), (1594, 1593, 124, 182), (1598, 1597, 125, 182), (1555, 1554, 116, 182), (1551, 1550, 115, 182), (1634, 1633, 134, 182), (1547, 1545, 1546, 182), (1638, 1636, 1637, 182), (1642, 1640, 1641, 182), (1454, 1453, 100, 182), (1473, 1472, 104, 182), (1481, 1480, 106, 182), (1458, 1457, 101, 182), (1462, 1461, 102, 182), (1466, 1465, 103, 182), (1477, 1476, 105, 182), (1487, 1486, 107, 182), (1491, 1490, 108, 182), (1495, 1494, 109, 182), (1499, 1498, 110, 182), (1450, 1449, 99, 182), (1446, 1445, 98, 182), (1503, 1502, 111, 182), (1650, 1649, 135, 182), (1646, 1644, 1645, 182), (1666, 1665, 137, 182), (1674, 1673, 139, 182), (1702, 1701, 145, 182), (1694, 1693, 143, 182), (1690, 1689, 142, 182), (1698, 1697, 144, 182), (1670, 1669, 138, 182), (1654, 1652, 1653, 182), (1678, 1677, 140, 182), (1662, 1661, 136, 182), (1686, 1685, 141, 182), (1713, 1712, 146, 182), (1721, 1720, 147, 182), (1658, 1656, 1657, 182), (1682, 1680, 1681, 182), (1709, 1707, 1708, 182), (1717, 1715, 1716, 182), (1729, 1728, 148, 182), (1736, 1735, 149, 182), (1725, 1723, 1724, 182), (1748, 1747, 151, 182), (1752, 1751, 152, 182), (1744, 1743, 150, 182), (1762, 1761, 153, 182), (1740, 1738, 1739, 182), (1766, 1764, 1765, 182), (1774, 1773, 154, 182), (1770, 1768, 1769, 182), (1781, 1780, 0, 182), (1778, 1776, 1777, 182), (1797, 1796, 157, 182), (1793, 1792, 156, 182), (1789, 1788, 155, 182), (1785, 1783, 1784, 182), (1809, 1808, 159, 182), (1805, 1804, 158, 182), (1801, 1799, 1800, 182), (1813, 1811, 1812, 182), (1825, 1824, 161, 182), (1821, 1820, 160, 182), (1817, 1815, 1816, 182), (1837, 1835, 1836, 182), (1841, 1839, 1840, 182), (1849, 1848, 165, 182), (1856, 1855, 0, 182), (1853, 1852, 166, 182), (1845, 1844, 164, 182), (1865, 1864, 167, 182), (1872, 1871, 168, 182), (1876, 1875, 169, 182), (1861, 1859, 1860, 182), (1880, 1878, 1879, 182), (1888, 1887, 170, 182), (1884, 1882, 1883, 182), (1892, 1890, 1891, 182), (1047, 1046, 0, 188), (334, 333, 0, 177), (633, 632, 0, 177), (0, 0, 0, 0)]
/-- a method's kind: 0 static, 1 a constructor, 2 another -/
def mkd : List Nat := [1, 2, 2, 1, 2, 2, 2, 2, 2, 2, 2, 2, 2, 2, 2, 2, 2, 2, 2, 2, 1, 2, 2, 2, 2, 2, 2, 1, 2, 2, 2, 2, 2, 1, 2, 2, 2, 2, 2, 2, 2, 2, 2, 0, 1, 2, 2, 2, 2, 2, 2, 2, 2, 1, 2, 2, 2, 2, 2, 2, 2, 2, 2, 2, 2, 2, 2, 2, 2, 2, 2, 2, 2, 2, 2, 2, 2, 2, 2, 1, 2, 2, 2, 0, 2, 2, 2, 2, 2, 2, 2, 0, 2, 1, 2, 2, 2, 2, 2, 2, 2, 2, 2, 2, 2, 2, 2, 2, 2, 2, 2, 2, 2, 2, 2, 2, 2, 2, 2, 2, 2, 2, 2, 2, 2, 2, 2, 2, 2, 2, 2, 0, 0, 0, 2, 2, 2, 2, 2, 0, 2, 2, 2, 0, 2, 2, 2, 0, 0, 0, 0, 1, 2, 2, 2, 2, 2, 2, 2, 2, 0, 2, 2, 2, 2, 2, 2, 2, 2, 2, 2, 2, 2, 2, 2, 2, 0, 0, 2, 2, 2, 2, 2, 2, 2, 0, 2, 2, 2, 2, 2, 2, 2, 2, 2, 2, 2, 2, 2, 2, 2, 2, 2, 2, 2, 2, 2, 2, 2, 2, 2, 2, 2, 2, 2, 2, 2, 2, 2, 2, 2, 2, 2, 2, 2, 2, 2, 2, 2, 2, 2, 2, 2, 2, 2, 2, 2, 2, 2, 2, 2, 2, 2, 2, 2, 2, 0, 2, 2, 2, 2, 2, 2, 2, 2, 2, 2, 2, 2, 2, 2, 2, 0, 2, 2, 2, 2, 2, 2, 2, 2, 2, 2, 0, 0, 0, 0]
def mna : List Nat := [0, 2, 3, 0, 1, 1, 1, 1, 1, 6, 2, 1, 0, 1, 1, 1, 2, 0, 3, 2, 0, 1, 3, 2, 1, 4, 3, 0, 0, 1, 3, 0, 1, 0, 2, 2, 2, 3, 2, 1, 2, 2, 2, 3, 2, 0, 2, 0, 1, 1, 2, 2, 1, 0, 3, 0, 0, 1, 2, 0, 1, 1, 1, 1, 1, 1, 1, 0, 0, 0, 2, 2, 1, 0, 1, 1, 1, 1, 0, 0, 1, 2, 2, 2, 4, 3, 3, 2, 3, 1, 3, 3, 2, 0, 1, 2, 6, 2, 2, 2, 2, 5, 1, 0, 0, 0, 0, 0, 0, 1, 2, 2, 1, 2, 0, 0, 3, 1, 0, 1, 3, 1, 1, 2, 1, 2, 2, 1, 1, 1, 0, 1, 1, 1, 1, 1, 1, 3, 2, 1, 0, 1, 3, 3, 1, 1, 1, 2, 1, 2, 2, 0, 1, 1, 1, 1, 1, 1, 1, 1, 1, 1, 1, 2, 2, 6, 2, 2, 2, 2, 2, 2, 0, 0, 5, 1, 1, 1, 2, 1, 0, 0, 1, 1, 0, 1, 2, 0, 0, 0, 1, 1, 1, 1, 1, 1, 0, 1, 1, 0, 0, 1, 1, 1, 2, 1, 1, 1, 2, 1, 1, 1, 1, 5, 1, 1, 2, 2, 2, 2, 2, 1, 1, 1, 1, 0, 1, 2, 1, 2, 0, 2, 1, 2, 0, 2, 2, 3, 0, 2, 0, 2, 1, 0, 1, 1, 2, 3, 1, 2, 0, 1, 3, 1, 1, 2, 1, 0, 1, 0, 0, 2, 1, 0, 1, 1, 2, 0, 2, 2, 0, 1, 0, 1, 2, 2, 1]
def CLk : List (Nat × Nat × Nat × Nat) := [(10, 7, 8, 189), (8, 7, 1, 197), (1, 45, 5, 203), (8, 23, 3, 303), (8, 37, 6, 320), (6, 9, 5, 326), (8, 44, 7, 384), (8, 51, 4, 411), (8, 58, 2, 434), (8, 65, 0, 461), (5, 13, 5, 911), (10, 10, 9, 1203)]
def KIk : List (Nat × Nat × Int32 × Nat) := [(8, 102, -1000000, 579), (7, 76, -2000000000, 634), (8, 354, -2000000000, 945), (11, 265, 1431655765, 1048), (11, 266, 858993459, 1049), (11, 267, 252645135, 1050), (8, 318, 1000000, 1174), (8, 358, 1000003, 1178), (9, 131, -1000000, 1415), (9, 180, 1000000, 1570)]
def KJk : List (Nat × Nat × Int64 × Nat) := [(7, 117, 1000000000, 643), (7, 119, -1000000000, 644), (9, 273, 1000000000, 1482), (9, 275, -1000000000, 1483), (9, 452, 1000000, 1857), (9, 465, 1103, 1866), (9, 470, 12345, 1867), (9, 472, 1000003, 1868)]
/-- a program: where its instantiable, its initialized word is, how many fields -/
def CKs : List (Nat × Nat × Nat) := [(462, 181, 7), (198, 173, 17), (435, 180, 6), (304, 174, 3), (412, 179, 5), (327, 176, 4), (321, 175, 10), (385, 178, 6), (190, 172, 20), (1204, 182, 56)]
theorem lyX0 : ∀ q ∈ ([(0, 475), (1, 477), (2, 479), (3, 481), (4, 483), (5, 485), (6, 487)] : List (Nat × Nat)), lw_tbl[q.2]? = some (u_lay RX0 TX0 q.1) := by decide +kernel
theorem lyX1 : ∀ q ∈ ([(0, 266), (1, 268), (2, 270), (3, 272), (4, 274), (5, 276), (6, 278), (7, 280), (8, 282), (9, 284), (10, 286), (11, 288), (12, 290), (13, 292), (14, 294), (15, 296), (16, 298)] : List (Nat × Nat)), lw_tbl[q.2]? = some (u_lay RX1 TX1 q.1) := by decide +kernel
theorem lyX2 : ∀ q ∈ ([(0, 448), (1, 450), (2, 452), (3, 454), (4, 456), (5, 458)] : List (Nat × Nat)), lw_tbl[q.2]? = some (u_lay RX2 TX2 q.1) := by decide +kernel
theorem lyX3 : ∀ q ∈ ([(0, 313), (1, 315), (2, 317)] : List (Nat × Nat)), lw_tbl[q.2]? = some (u_lay RX3 TX3 q.1) := by decide +kernel
theorem lyX4 : ∀ q ∈ ([(0, 423), (1, 425), (2, 427), (3, 429), (4, 431)] : List (Nat × Nat)), lw_tbl[q.2]? = some (u_lay RX4 TX4 q.1) := by decide +kernel
theorem lyX5 : ∀ q ∈ ([(0, 343), (1, 345), (2, 347), (3, 349)] : List (Nat × Nat)), lw_tbl[q.2]? = some (u_lay RX5 TX5 q.1) := by decide +kernel
theorem lyX6 : ∀ q ∈ ([(0, 363), (1, 365), (2, 367), (3, 369), (4, 371), (5, 373), (6, 375), (7, 377), (8, 379), (9, 381)] : List (Nat × Nat)), lw_tbl[q.2]? = some (u_lay RX6 TX6 q.1) := by decide +kernel
theorem lyX7 : ∀ q ∈ ([(0, 398), (1, 400), (2, 402), (3, 404), (4, 406), (5, 408)] : List (Nat × Nat)), lw_tbl[q.2]? = some (u_lay RX7 TX7 q.1) := by decide +kernel
theorem lyX8 : ∀ q ∈ ([(0, 510), (1, 512), (2, 514), (3, 516), (4, 518), (5, 520), (6, 522), (7, 524), (8, 526), (9, 528), (10, 530), (11, 532), (12, 534), (13, 536), (14, 538), (15, 540), (16, 542), (17, 544), (18, 546), (19, 548)] : List (Nat × Nat)), lw_tbl[q.2]? = some (u_lay RX8 TX8 q.1) := by decide +kernel
theorem lyX9 : ∀ q ∈ ([(0, 1265), (1, 1267), (2, 1269), (3, 1271), (4, 1273), (5, 1275), (6, 1277), (7, 1279), (8, 1281), (9, 1283), (10, 1285), (11, 1287), (12, 1289), (13, 1291), (14, 1293), (15, 1295), (16, 1297), (17, 1299), (18, 1301), (19, 1303), (20, 1305), (21, 1307), (22, 1309), (23, 1311), (24, 1313), (25, 1315), (26, 1317), (27, 1319), (28, 1321), (29, 1323), (30, 1325), (31, 1327), (32, 1329), (33, 1331), (34, 1333), (35, 1335), (36, 1337), (37, 1339), (38, 1341), (39, 1343), (40, 1345), (41, 1347), (42, 1349), (43, 1351), (44, 1353), (45, 1355), (46, 1357), (47, 1359), (48, 1361), (49, 1363), (50, 1365), (51, 1367), (52, 1369), (53, 1371), (54, 1373), (55, 1375)] : List (Nat × Nat)), lw_tbl[q.2]? = some (u_lay RX9 TX9 q.1) := by decide +kernel
def strI : List Nat := [72, 173, 178, 180, 182, 184, 186, 91, 188, 190, 192, 194, 196, 82, 84, 89, 97, 99, 101, 103, 105, 119, 141, 139, 127]
def strT : List String := ["pays", "owes", "holds", "sum", "kind", "late", "purse", "to", "day", "mood", "done", "latest", "holder", "wears", "bars", "give", "call", "shave", "by", "pass", "times", "if", "not", "and", "or"]
def strP : List Nat := [724, 837, 838, 839, 840, 841, 842, 843, 844, 845, 850, 851, 852, 862, 863, 868, 873, 874, 875, 876, 877, 883, 896, 901, 906]
def cTX (ci : Nat) : u_T := (classes.getD ci ("", fun _ => ("", "", "", false), 0)).2.1
def fWord (q : Nat × Nat × Nat × Nat × Nat × Nat) : Cond := bif q.2.2.2.2.1 == 0 then .fieldLink (cnm.getD q.1 "") q.2.1 (cTX q.2.2.1 q.2.2.2.1).1 (cTX q.2.2.1 q.2.2.2.1).2.1 (cTX q.2.2.1 q.2.2.2.1).2.2.1 else .fieldLinkNest (cnm.getD q.1 "") q.2.1 (cTX q.2.2.1 q.2.2.2.1).1 (cTX q.2.2.1 q.2.2.2.1).2.1 (cTX q.2.2.1 q.2.2.2.1).2.2.1 "TallySticks"
def mWord (q : Nat × Nat × Nat × Nat × Nat) : Cond := bif q.2.2.2.1 == 0 then .methodLink (cnm.getD q.1 "") q.2.1 (yT q.2.2.1) else .methodLinkNest (cnm.getD q.1 "") q.2.1 (yT q.2.2.1) "TallySticks"
theorem ckF_0 : ∀ q ∈ (FL.drop 0).take 40, lw_tbl[q.2.2.2.2.2]? = some (fWord q) := by decide +kernel
theorem ckF_1 : ∀ q ∈ (FL.drop 40).take 40, lw_tbl[q.2.2.2.2.2]? = some (fWord q) := by decide +kernel
theorem ckF_2 : ∀ q ∈ (FL.drop 80).take 40, lw_tbl[q.2.2.2.2.2]? = some (fWord q) := by decide +kernel
theorem ckF_3 : ∀ q ∈ (FL.drop 120).take 40, lw_tbl[q.2.2.2.2.2]? = some (fWord q) := by decide +kernel
theorem ckF_4 : ∀ q ∈ (FL.drop 160).take 40, lw_tbl[q.2.2.2.2.2]? = some (fWord q) := by decide +kernel
set_option maxRecDepth 100000 in
theorem ckF : ∀ q ∈ FL, lw_tbl[q.2.2.2.2.2]? = some (fWord q) := by
  intro q hq
  obtain ⟨i, hi⟩ := List.getElem?_of_mem hq
  by_cases h0 : i < 40
  · exact ckF_0 q (List.mem_of_getElem? (i := i - 0) (by rw [List.getElem?_take, if_pos (by omega), List.getElem?_drop]; rw [show 0 + (i - 0) = i by omega]; exact hi))
  by_cases h1 : i < 80
  · exact ckF_1 q (List.mem_of_getElem? (i := i - 40) (by rw [List.getElem?_take, if_pos (by omega), List.getElem?_drop]; rw [show 40 + (i - 40) = i by omega]; exact hi))
  by_cases h2 : i < 120
  · exact ckF_2 q (List.mem_of_getElem? (i := i - 80) (by rw [List.getElem?_take, if_pos (by omega), List.getElem?_drop]; rw [show 80 + (i - 80) = i by omega]; exact hi))
  by_cases h3 : i < 160
  · exact ckF_3 q (List.mem_of_getElem? (i := i - 120) (by rw [List.getElem?_take, if_pos (by omega), List.getElem?_drop]; rw [show 120 + (i - 120) = i by omega]; exact hi))
  by_cases h4 : i < 190
  · exact ckF_4 q (List.mem_of_getElem? (i := i - 160) (by rw [List.getElem?_take, if_pos (by omega), List.getElem?_drop]; rw [show 160 + (i - 160) = i by omega]; exact hi))
  · exact absurd (List.getElem?_eq_some_iff.mp hi).1 (by rw [show FL.length = 190 from rfl]; omega)
theorem ckM_0 : ∀ q ∈ (MLk.drop 0).take 40, lw_tbl[q.2.2.2.2]? = some (mWord q) := by decide +kernel
theorem ckM_1 : ∀ q ∈ (MLk.drop 40).take 40, lw_tbl[q.2.2.2.2]? = some (mWord q) := by decide +kernel
theorem ckM_2 : ∀ q ∈ (MLk.drop 80).take 40, lw_tbl[q.2.2.2.2]? = some (mWord q) := by decide +kernel
theorem ckM_3 : ∀ q ∈ (MLk.drop 120).take 40, lw_tbl[q.2.2.2.2]? = some (mWord q) := by decide +kernel
theorem ckM_4 : ∀ q ∈ (MLk.drop 160).take 40, lw_tbl[q.2.2.2.2]? = some (mWord q) := by decide +kernel
theorem ckM_5 : ∀ q ∈ (MLk.drop 200).take 40, lw_tbl[q.2.2.2.2]? = some (mWord q) := by decide +kernel
theorem ckM_6 : ∀ q ∈ (MLk.drop 240).take 40, lw_tbl[q.2.2.2.2]? = some (mWord q) := by decide +kernel
theorem ckM_7 : ∀ q ∈ (MLk.drop 280).take 40, lw_tbl[q.2.2.2.2]? = some (mWord q) := by decide +kernel
set_option maxRecDepth 100000 in
theorem ckM : ∀ q ∈ MLk, lw_tbl[q.2.2.2.2]? = some (mWord q) := by
  intro q hq
  obtain ⟨i, hi⟩ := List.getElem?_of_mem hq
  by_cases h0 : i < 40
  · exact ckM_0 q (List.mem_of_getElem? (i := i - 0) (by rw [List.getElem?_take, if_pos (by omega), List.getElem?_drop]; rw [show 0 + (i - 0) = i by omega]; exact hi))
  by_cases h1 : i < 80
  · exact ckM_1 q (List.mem_of_getElem? (i := i - 40) (by rw [List.getElem?_take, if_pos (by omega), List.getElem?_drop]; rw [show 40 + (i - 40) = i by omega]; exact hi))
  by_cases h2 : i < 120
  · exact ckM_2 q (List.mem_of_getElem? (i := i - 80) (by rw [List.getElem?_take, if_pos (by omega), List.getElem?_drop]; rw [show 80 + (i - 80) = i by omega]; exact hi))
  by_cases h3 : i < 160
  · exact ckM_3 q (List.mem_of_getElem? (i := i - 120) (by rw [List.getElem?_take, if_pos (by omega), List.getElem?_drop]; rw [show 120 + (i - 120) = i by omega]; exact hi))
  by_cases h4 : i < 200
  · exact ckM_4 q (List.mem_of_getElem? (i := i - 160) (by rw [List.getElem?_take, if_pos (by omega), List.getElem?_drop]; rw [show 160 + (i - 160) = i by omega]; exact hi))
  by_cases h5 : i < 240
  · exact ckM_5 q (List.mem_of_getElem? (i := i - 200) (by rw [List.getElem?_take, if_pos (by omega), List.getElem?_drop]; rw [show 200 + (i - 200) = i by omega]; exact hi))
  by_cases h6 : i < 280
  · exact ckM_6 q (List.mem_of_getElem? (i := i - 240) (by rw [List.getElem?_take, if_pos (by omega), List.getElem?_drop]; rw [show 240 + (i - 240) = i by omega]; exact hi))
  by_cases h7 : i < 301
  · exact ckM_7 q (List.mem_of_getElem? (i := i - 280) (by rw [List.getElem?_take, if_pos (by omega), List.getElem?_drop]; rw [show 280 + (i - 280) = i by omega]; exact hi))
  · exact absurd (List.getElem?_eq_some_iff.mp hi).1 (by rw [show MLk.length = 301 from rfl]; omega)
theorem ckC_0 : ∀ q ∈ (CLk.drop 0).take 40, lw_tbl[q.2.2.2]? = some (.classLink (cnm.getD q.1 "") q.2.1 (cnm.getD q.2.2.1 "")) := by decide +kernel
set_option maxRecDepth 100000 in
theorem ckC : ∀ q ∈ CLk, lw_tbl[q.2.2.2]? = some (.classLink (cnm.getD q.1 "") q.2.1 (cnm.getD q.2.2.1 "")) := by
  intro q hq
  obtain ⟨i, hi⟩ := List.getElem?_of_mem hq
  by_cases h0 : i < 12
  · exact ckC_0 q (List.mem_of_getElem? (i := i - 0) (by rw [List.getElem?_take, if_pos (by omega), List.getElem?_drop]; rw [show 0 + (i - 0) = i by omega]; exact hi))
  · exact absurd (List.getElem?_eq_some_iff.mp hi).1 (by rw [show CLk.length = 12 from rfl]; omega)
theorem ckKI_0 : ∀ q ∈ (KIk.drop 0).take 40, lw_tbl[q.2.2.2]? = some (.constant (cnm.getD q.1 "") q.2.1 q.2.2.1) := by decide +kernel
set_option maxRecDepth 100000 in
theorem ckKI : ∀ q ∈ KIk, lw_tbl[q.2.2.2]? = some (.constant (cnm.getD q.1 "") q.2.1 q.2.2.1) := by
  intro q hq
  obtain ⟨i, hi⟩ := List.getElem?_of_mem hq
  by_cases h0 : i < 10
  · exact ckKI_0 q (List.mem_of_getElem? (i := i - 0) (by rw [List.getElem?_take, if_pos (by omega), List.getElem?_drop]; rw [show 0 + (i - 0) = i by omega]; exact hi))
  · exact absurd (List.getElem?_eq_some_iff.mp hi).1 (by rw [show KIk.length = 10 from rfl]; omega)
theorem ckKJ_0 : ∀ q ∈ (KJk.drop 0).take 40, lw_tbl[q.2.2.2]? = some (.constantLong (cnm.getD q.1 "") q.2.1 q.2.2.1) := by decide +kernel
set_option maxRecDepth 100000 in
theorem ckKJ : ∀ q ∈ KJk, lw_tbl[q.2.2.2]? = some (.constantLong (cnm.getD q.1 "") q.2.1 q.2.2.1) := by
  intro q hq
  obtain ⟨i, hi⟩ := List.getElem?_of_mem hq
  by_cases h0 : i < 8
  · exact ckKJ_0 q (List.mem_of_getElem? (i := i - 0) (by rw [List.getElem?_take, if_pos (by omega), List.getElem?_drop]; rw [show 0 + (i - 0) = i by omega]; exact hi))
  · exact absurd (List.getElem?_eq_some_iff.mp hi).1 (by rw [show KJk.length = 8 from rfl]; omega)
theorem ckI : ∀ i, i < 10 → lw_tbl[(CKs.getD i (0, 0, 0)).1]? = some (.instantiable (cnm.getD i "") (CKs.getD i (0, 0, 0)).2.2) ∧ lw_tbl[(CKs.getD i (0, 0, 0)).2.1]? = some (.initialized (cnm.getD i "")) := by decide +kernel
theorem ckS : ∀ i, i < 25 → lw_tbl[strP.getD i 0]? = some (.stringRef RX6 (strI.getD i 0) (strT.getD i "")) := by decide +kernel
theorem ckT_0 : ∀ i, i < 40 → lw_tbl[(MT.getD (0 + i) (0, 0, 0, 0)).2.2.2]? = some (.initialized (own (0 + i))) ∧ (mkd.getD (0 + i) 9 = 0 → lw_tbl[(MT.getD (0 + i) (0, 0, 0, 0)).2.1]? = some (.static (yT (0 + i)))) ∧ (mkd.getD (0 + i) 9 ≠ 0 → lw_tbl[(MT.getD (0 + i) (0, 0, 0, 0)).2.1]? = some (.instanceMethod (yT (0 + i)))) ∧ (mkd.getD (0 + i) 9 = 2 → lw_tbl[(MT.getD (0 + i) (0, 0, 0, 0)).2.2.1]? = some (.selects (own (0 + i)) (yT (0 + i)) (yT (0 + i)))) := by decide +kernel
theorem ckT_1 : ∀ i, i < 40 → lw_tbl[(MT.getD (40 + i) (0, 0, 0, 0)).2.2.2]? = some (.initialized (own (40 + i))) ∧ (mkd.getD (40 + i) 9 = 0 → lw_tbl[(MT.getD (40 + i) (0, 0, 0, 0)).2.1]? = some (.static (yT (40 + i)))) ∧ (mkd.getD (40 + i) 9 ≠ 0 → lw_tbl[(MT.getD (40 + i) (0, 0, 0, 0)).2.1]? = some (.instanceMethod (yT (40 + i)))) ∧ (mkd.getD (40 + i) 9 = 2 → lw_tbl[(MT.getD (40 + i) (0, 0, 0, 0)).2.2.1]? = some (.selects (own (40 + i)) (yT (40 + i)) (yT (40 + i)))) := by decide +kernel
theorem ckT_2 : ∀ i, i < 40 → lw_tbl[(MT.getD (80 + i) (0, 0, 0, 0)).2.2.2]? = some (.initialized (own (80 + i))) ∧ (mkd.getD (80 + i) 9 = 0 → lw_tbl[(MT.getD (80 + i) (0, 0, 0, 0)).2.1]? = some (.static (yT (80 + i)))) ∧ (mkd.getD (80 + i) 9 ≠ 0 → lw_tbl[(MT.getD (80 + i) (0, 0, 0, 0)).2.1]? = some (.instanceMethod (yT (80 + i)))) ∧ (mkd.getD (80 + i) 9 = 2 → lw_tbl[(MT.getD (80 + i) (0, 0, 0, 0)).2.2.1]? = some (.selects (own (80 + i)) (yT (80 + i)) (yT (80 + i)))) := by decide +kernel
theorem ckT_3 : ∀ i, i < 40 → lw_tbl[(MT.getD (120 + i) (0, 0, 0, 0)).2.2.2]? = some (.initialized (own (120 + i))) ∧ (mkd.getD (120 + i) 9 = 0 → lw_tbl[(MT.getD (120 + i) (0, 0, 0, 0)).2.1]? = some (.static (yT (120 + i)))) ∧ (mkd.getD (120 + i) 9 ≠ 0 → lw_tbl[(MT.getD (120 + i) (0, 0, 0, 0)).2.1]? = some (.instanceMethod (yT (120 + i)))) ∧ (mkd.getD (120 + i) 9 = 2 → lw_tbl[(MT.getD (120 + i) (0, 0, 0, 0)).2.2.1]? = some (.selects (own (120 + i)) (yT (120 + i)) (yT (120 + i)))) := by decide +kernel
theorem ckT_4 : ∀ i, i < 40 → lw_tbl[(MT.getD (160 + i) (0, 0, 0, 0)).2.2.2]? = some (.initialized (own (160 + i))) ∧ (mkd.getD (160 + i) 9 = 0 → lw_tbl[(MT.getD (160 + i) (0, 0, 0, 0)).2.1]? = some (.static (yT (160 + i)))) ∧ (mkd.getD (160 + i) 9 ≠ 0 → lw_tbl[(MT.getD (160 + i) (0, 0, 0, 0)).2.1]? = some (.instanceMethod (yT (160 + i)))) ∧ (mkd.getD (160 + i) 9 = 2 → lw_tbl[(MT.getD (160 + i) (0, 0, 0, 0)).2.2.1]? = some (.selects (own (160 + i)) (yT (160 + i)) (yT (160 + i)))) := by decide +kernel
theorem ckT_5 : ∀ i, i < 40 → lw_tbl[(MT.getD (200 + i) (0, 0, 0, 0)).2.2.2]? = some (.initialized (own (200 + i))) ∧ (mkd.getD (200 + i) 9 = 0 → lw_tbl[(MT.getD (200 + i) (0, 0, 0, 0)).2.1]? = some (.static (yT (200 + i)))) ∧ (mkd.getD (200 + i) 9 ≠ 0 → lw_tbl[(MT.getD (200 + i) (0, 0, 0, 0)).2.1]? = some (.instanceMethod (yT (200 + i)))) ∧ (mkd.getD (200 + i) 9 = 2 → lw_tbl[(MT.getD (200 + i) (0, 0, 0, 0)).2.2.1]? = some (.selects (own (200 + i)) (yT (200 + i)) (yT (200 + i)))) := by decide +kernel
theorem ckT_6 : ∀ i, i < 36 → lw_tbl[(MT.getD (240 + i) (0, 0, 0, 0)).2.2.2]? = some (.initialized (own (240 + i))) ∧ (mkd.getD (240 + i) 9 = 0 → lw_tbl[(MT.getD (240 + i) (0, 0, 0, 0)).2.1]? = some (.static (yT (240 + i)))) ∧ (mkd.getD (240 + i) 9 ≠ 0 → lw_tbl[(MT.getD (240 + i) (0, 0, 0, 0)).2.1]? = some (.instanceMethod (yT (240 + i)))) ∧ (mkd.getD (240 + i) 9 = 2 → lw_tbl[(MT.getD (240 + i) (0, 0, 0, 0)).2.2.1]? = some (.selects (own (240 + i)) (yT (240 + i)) (yT (240 + i)))) := by decide +kernel
theorem ckT (i : Nat) (h : i < 276) : lw_tbl[(MT.getD i (0, 0, 0, 0)).2.2.2]? = some (.initialized (own i)) ∧ (mkd.getD i 9 = 0 → lw_tbl[(MT.getD i (0, 0, 0, 0)).2.1]? = some (.static (yT i))) ∧ (mkd.getD i 9 ≠ 0 → lw_tbl[(MT.getD i (0, 0, 0, 0)).2.1]? = some (.instanceMethod (yT i))) ∧ (mkd.getD i 9 = 2 → lw_tbl[(MT.getD i (0, 0, 0, 0)).2.2.1]? = some (.selects (own i) (yT i) (yT i))) := by
  by_cases h0 : i < 40
  · have h9 := ckT_0 (i - 0) (by omega)
    rw [show 0 + (i - 0) = i by omega] at h9
    exact h9
  by_cases h1 : i < 80
  · have h9 := ckT_1 (i - 40) (by omega)
    rw [show 40 + (i - 40) = i by omega] at h9
    exact h9
  by_cases h2 : i < 120
  · have h9 := ckT_2 (i - 80) (by omega)
    rw [show 80 + (i - 80) = i by omega] at h9
    exact h9
  by_cases h3 : i < 160
  · have h9 := ckT_3 (i - 120) (by omega)
    rw [show 120 + (i - 120) = i by omega] at h9
    exact h9
  by_cases h4 : i < 200
  · have h9 := ckT_4 (i - 160) (by omega)
    rw [show 160 + (i - 160) = i by omega] at h9
    exact h9
  by_cases h5 : i < 240
  · have h9 := ckT_5 (i - 200) (by omega)
    rw [show 200 + (i - 200) = i by omega] at h9
    exact h9
  by_cases h6 : i < 276
  · have h9 := ckT_6 (i - 240) (by omega)
    rw [show 240 + (i - 240) = i by omega] at h9
    exact h9
  omega
set_option maxRecDepth 20000 in
theorem cb_0 : Cond.code ⟨"TallySticks$CallingIn", "<init>", "()V"⟩ prog_2_method_1_code 1 none ∈ lw_tbl := List.mem_append_right _ (List.mem_append_right _ (List.mem_append_left _ (List.mem_of_getElem? (i := 54) rfl)))
set_option maxRecDepth 20000 in
theorem cb_1 : Cond.code ⟨"TallySticks$CallingIn", "longestRow", "(LTallySticks$Chest;LTallySticks$Rules;)I"⟩ prog_2_method_2_code 4 (some .int) ∈ lw_tbl := List.mem_append_right _ (List.mem_append_right _ (List.mem_append_right _ (List.mem_append_right _ (List.mem_append_right _ (List.mem_append_left _ (List.mem_of_getElem? (i := 30) rfl))))))
set_option maxRecDepth 20000 in
theorem cb_2 : Cond.code ⟨"TallySticks$CallingIn", "tryBehind", "(LTallySticks$Chest;LTallySticks$Rules;I)V"⟩ prog_2_method_3_code 10 none ∈ lw_tbl := List.mem_append_right _ (List.mem_append_right _ (List.mem_append_right _ (List.mem_append_right _ (List.mem_append_right _ (List.mem_append_left _ (List.mem_of_getElem? (i := 35) rfl))))))
set_option maxRecDepth 20000 in
theorem cb_3 : Cond.code ⟨"TallySticks$Chest", "<init>", "()V"⟩ prog_3_method_1_code 1 none ∈ lw_tbl := List.mem_append_right _ (List.mem_append_left _ (List.mem_of_getElem? (i := 30) rfl))
set_option maxRecDepth 20000 in
theorem cb_4 : Cond.code ⟨"TallySticks$Chest", "copyFrom", "(LTallySticks$Chest;)V"⟩ prog_3_method_2_code 3 none ∈ lw_tbl := List.mem_append_right _ (List.mem_append_right _ (List.mem_append_right _ (List.mem_append_right _ (List.mem_append_left _ (List.mem_of_getElem? (i := 37) rfl)))))
set_option maxRecDepth 20000 in
theorem cb_5 : Cond.code ⟨"TallySticks$Chest", "hasPerson", "(I)Z"⟩ prog_3_method_3_code 2 (some .boolean) ∈ lw_tbl := List.mem_append_right _ (List.mem_append_right _ (List.mem_append_left _ (List.mem_of_getElem? (i := 167) rfl)))
set_option maxRecDepth 20000 in
theorem cb_6 : Cond.code ⟨"TallySticks$Chest", "hasStick", "(I)Z"⟩ prog_3_method_4_code 2 (some .boolean) ∈ lw_tbl := List.mem_append_right _ (List.mem_append_right _ (List.mem_append_left _ (List.mem_of_getElem? (i := 198) rfl)))
set_option maxRecDepth 20000 in
theorem cb_7 : Cond.code ⟨"TallySticks$Chest", "hasFoil", "(I)Z"⟩ prog_3_method_5_code 2 (some .boolean) ∈ lw_tbl := List.mem_append_right _ (List.mem_append_right _ (List.mem_append_right _ (List.mem_append_left _ (List.mem_of_getElem? (i := 16) rfl))))
set_option maxRecDepth 20000 in
theorem cb_8 : Cond.code ⟨"TallySticks$Chest", "addPerson", "(I)I"⟩ prog_3_method_6_code 2 (some .int) ∈ lw_tbl := List.mem_append_right _ (List.mem_append_right _ (List.mem_append_left _ (List.mem_of_getElem? (i := 155) rfl)))
set_option maxRecDepth 20000 in
theorem cb_9 : Cond.code ⟨"TallySticks$Chest", "addStick", "(IIIIII)I"⟩ prog_3_method_7_code 7 (some .int) ∈ lw_tbl := List.mem_append_right _ (List.mem_append_right _ (List.mem_append_left _ (List.mem_of_getElem? (i := 190) rfl)))
set_option maxRecDepth 20000 in
theorem cb_10 : Cond.code ⟨"TallySticks$Chest", "addFoil", "(II)I"⟩ prog_3_method_8_code 3 (some .int) ∈ lw_tbl := List.mem_append_right _ (List.mem_append_right _ (List.mem_append_right _ (List.mem_append_left _ (List.mem_of_getElem? (i := 8) rfl))))
set_option maxRecDepth 20000 in
theorem cb_11 : Cond.code ⟨"TallySticks$Chest", "addLaw", "(LTallySticks$Program;)I"⟩ prog_3_method_9_code 2 (some .int) ∈ lw_tbl := List.mem_append_right _ (List.mem_append_right _ (List.mem_append_right _ (List.mem_append_right _ (List.mem_append_left _ (List.mem_of_getElem? (i := 28) rfl)))))
set_option maxRecDepth 20000 in
theorem cb_12 : Cond.code ⟨"TallySticks$Chest", "lawInForce", "()LTallySticks$Program;"⟩ prog_3_method_10_code 1 (some (.object "TallySticks$Program")) ∈ lw_tbl := List.mem_append_right _ (List.mem_append_right _ (List.mem_append_left _ (List.mem_of_getElem? (i := 210) rfl)))
set_option maxRecDepth 20000 in
theorem cb_13 : Cond.code ⟨"TallySticks$Chest", "isOpen", "(I)Z"⟩ prog_3_method_11_code 2 (some .boolean) ∈ lw_tbl := List.mem_append_right _ (List.mem_append_right _ (List.mem_append_right _ (List.mem_append_right _ (List.mem_append_left _ (List.mem_of_getElem? (i := 72) rfl)))))
set_option maxRecDepth 20000 in
theorem cb_14 : Cond.code ⟨"TallySticks$Chest", "isCallable", "(I)Z"⟩ prog_3_method_12_code 2 (some .boolean) ∈ lw_tbl := List.mem_append_right _ (List.mem_append_right _ (List.mem_append_right _ (List.mem_append_right _ (List.mem_append_left _ (List.mem_of_getElem? (i := 85) rfl)))))
set_option maxRecDepth 20000 in
theorem cb_15 : Cond.code ⟨"TallySticks$Chest", "netOf", "(I)I"⟩ prog_3_method_13_code 4 (some .int) ∈ lw_tbl := List.mem_append_right _ (List.mem_append_right _ (List.mem_append_left _ (List.mem_of_getElem? (i := 172) rfl)))
set_option maxRecDepth 20000 in
theorem cb_16 : Cond.code ⟨"TallySticks$Chest", "openSticks", "([II)I"⟩ prog_3_method_14_code 5 (some .int) ∈ lw_tbl := List.mem_append_right _ (List.mem_append_right _ (List.mem_append_left _ (List.mem_of_getElem? (i := 176) rfl)))
set_option maxRecDepth 20000 in
theorem cb_17 : Cond.code ⟨"TallySticks$Chest", "paidSticks", "()I"⟩ prog_3_method_15_code 3 (some .int) ∈ lw_tbl := List.mem_append_right _ (List.mem_append_right _ (List.mem_append_right _ (List.mem_append_right _ (List.mem_append_right _ (List.mem_append_left _ (List.mem_of_getElem? (i := 67) rfl))))))
set_option maxRecDepth 20000 in
theorem cb_18 : Cond.code ⟨"TallySticks$Chest", "fits", "(III)Z"⟩ prog_3_method_16_code 4 (some .boolean) ∈ lw_tbl := List.mem_append_right _ (List.mem_append_right _ (List.mem_append_right _ (List.mem_append_right _ (List.mem_append_left _ (List.mem_of_getElem? (i := 163) rfl)))))
set_option maxRecDepth 20000 in
theorem cb_19 : Cond.code ⟨"TallySticks$Chest", "payOver", "(II)Z"⟩ prog_3_method_17_code 5 (some .boolean) ∈ lw_tbl := List.mem_append_right _ (List.mem_append_right _ (List.mem_append_right _ (List.mem_append_right _ (List.mem_append_left _ (List.mem_of_getElem? (i := 91) rfl)))))
set_option maxRecDepth 20000 in
theorem cb_20 : Cond.code ⟨"TallySticks$Debts", "<init>", "()V"⟩ prog_4_method_1_code 1 none ∈ lw_tbl := List.mem_append_right _ (List.mem_append_right _ (List.mem_append_left _ (List.mem_of_getElem? (i := 27) rfl)))
set_option maxRecDepth 20000 in
theorem cb_21 : Cond.code ⟨"TallySticks$Debts", "settleAll", "(LTallySticks$Chest;)I"⟩ prog_4_method_2_code 4 (some .int) ∈ lw_tbl := List.mem_append_right _ (List.mem_append_right _ (List.mem_append_right _ (List.mem_append_right _ (List.mem_append_left _ (List.mem_of_getElem? (i := 230) rfl)))))
set_option maxRecDepth 20000 in
theorem cb_22 : Cond.code ⟨"TallySticks$Debts", "partFrom", "(III)V"⟩ prog_4_method_3_code 5 none ∈ lw_tbl := List.mem_append_right _ (List.mem_append_right _ (List.mem_append_right _ (List.mem_append_right _ (List.mem_append_left _ (List.mem_of_getElem? (i := 235) rfl)))))
set_option maxRecDepth 20000 in
theorem cb_23 : Cond.code ⟨"TallySticks$Debts", "keepParting", "(II)V"⟩ prog_4_method_4_code 4 none ∈ lw_tbl := List.mem_append_right _ (List.mem_append_right _ (List.mem_append_right _ (List.mem_append_right _ (List.mem_append_left _ (List.mem_of_getElem? (i := 239) rfl)))))
set_option maxRecDepth 20000 in
theorem cb_24 : Cond.code ⟨"TallySticks$Debts", "shortestRing", "(LTallySticks$Chest;)I"⟩ prog_4_method_5_code 4 (some .int) ∈ lw_tbl := List.mem_append_right _ (List.mem_append_right _ (List.mem_append_right _ (List.mem_append_right _ (List.mem_append_right _ (List.mem_append_left _ (List.mem_of_getElem? (i := 9) rfl))))))
set_option maxRecDepth 20000 in
theorem cb_25 : Cond.code ⟨"TallySticks$Debts", "closesRing", "(LTallySticks$Chest;III)Z"⟩ prog_4_method_6_code 7 (some .boolean) ∈ lw_tbl := List.mem_append_right _ (List.mem_append_right _ (List.mem_append_right _ (List.mem_append_right _ (List.mem_append_right _ (List.mem_append_left _ (List.mem_of_getElem? (i := 14) rfl))))))
set_option maxRecDepth 20000 in
theorem cb_26 : Cond.code ⟨"TallySticks$Debts", "shortestChain", "(LTallySticks$Chest;II)I"⟩ prog_4_method_7_code 8 (some .int) ∈ lw_tbl := List.mem_append_right _ (List.mem_append_right _ (List.mem_append_right _ (List.mem_append_right _ (List.mem_append_right _ (List.mem_append_left _ (List.mem_of_getElem? (i := 22) rfl))))))
set_option maxRecDepth 20000 in
theorem cb_27 : Cond.code ⟨"TallySticks$Deeds", "<init>", "()V"⟩ prog_5_method_1_code 1 none ∈ lw_tbl := List.mem_append_right _ (List.mem_append_left _ (List.mem_of_getElem? (i := 136) rfl))
set_option maxRecDepth 20000 in
theorem cb_28 : Cond.code ⟨"TallySticks$Deeds", "forget", "()V"⟩ prog_5_method_2_code 1 none ∈ lw_tbl := List.mem_append_right _ (List.mem_append_right _ (List.mem_append_left _ (List.mem_of_getElem? (i := 151) rfl)))
set_option maxRecDepth 20000 in
theorem cb_29 : Cond.code ⟨"TallySticks$Deeds", "copyFrom", "(LTallySticks$Deeds;)V"⟩ prog_5_method_3_code 2 none ∈ lw_tbl := List.mem_append_right _ (List.mem_append_right _ (List.mem_append_right _ (List.mem_append_right _ (List.mem_append_left _ (List.mem_of_getElem? (i := 42) rfl)))))
set_option maxRecDepth 20000 in
theorem cb_30 : Cond.code ⟨"TallySticks$Deeds", "prepare", "(ILTallySticks$Chest;I)V"⟩ prog_5_method_4_code 6 none ∈ lw_tbl := List.mem_append_right _ (List.mem_append_right _ (List.mem_append_right _ (List.mem_append_right _ (List.mem_append_left _ (List.mem_of_getElem? (i := 62) rfl)))))
set_option maxRecDepth 20000 in
theorem cb_31 : Cond.code ⟨"TallySticks$Deeds", "keep", "()V"⟩ prog_5_method_5_code 1 none ∈ lw_tbl := List.mem_append_right _ (List.mem_append_right _ (List.mem_append_right _ (List.mem_append_right _ (List.mem_append_left _ (List.mem_of_getElem? (i := 104) rfl)))))
set_option maxRecDepth 20000 in
theorem cb_32 : Cond.code ⟨"TallySticks$Deeds", "takeBack", "(LTallySticks$Chest;)I"⟩ prog_5_method_6_code 6 (some .int) ∈ lw_tbl := List.mem_append_right _ (List.mem_append_right _ (List.mem_append_right _ (List.mem_append_right _ (List.mem_append_left _ (List.mem_of_getElem? (i := 149) rfl)))))
set_option maxRecDepth 20000 in
theorem cb_33 : Cond.code ⟨"TallySticks$Halves", "<init>", "()V"⟩ prog_6_method_1_code 1 none ∈ lw_tbl := List.mem_append_right _ (List.mem_append_right _ (List.mem_append_left _ (List.mem_of_getElem? (i := 4) rfl)))
set_option maxRecDepth 20000 in
theorem cb_34 : Cond.code ⟨"TallySticks$Halves", "seeFitting", "(LTallySticks$Chest;LTallySticks$Rules;)V"⟩ prog_6_method_2_code 6 none ∈ lw_tbl := List.mem_append_right _ (List.mem_append_right _ (List.mem_append_right _ (List.mem_append_right _ (List.mem_append_left _ (List.mem_of_getElem? (i := 176) rfl)))))
set_option maxRecDepth 20000 in
theorem cb_35 : Cond.code ⟨"TallySticks$Halves", "oddFoils", "(LTallySticks$Chest;LTallySticks$Rules;)I"⟩ prog_6_method_3_code 5 (some .int) ∈ lw_tbl := List.mem_append_right _ (List.mem_append_right _ (List.mem_append_right _ (List.mem_append_right _ (List.mem_append_left _ (List.mem_of_getElem? (i := 194) rfl)))))
set_option maxRecDepth 20000 in
theorem cb_36 : Cond.code ⟨"TallySticks$Halves", "matchMost", "(LTallySticks$Chest;LTallySticks$Rules;)I"⟩ prog_6_method_4_code 9 (some .int) ∈ lw_tbl := List.mem_append_right _ (List.mem_append_right _ (List.mem_append_right _ (List.mem_append_right _ (List.mem_append_left _ (List.mem_of_getElem? (i := 172) rfl)))))
set_option maxRecDepth 20000 in
theorem cb_37 : Cond.code ⟨"TallySticks$Halves", "matchFrom", "(III)I"⟩ prog_6_method_5_code 6 (some .int) ∈ lw_tbl := List.mem_append_right _ (List.mem_append_right _ (List.mem_append_right _ (List.mem_append_right _ (List.mem_append_left _ (List.mem_of_getElem? (i := 182) rfl)))))
set_option maxRecDepth 20000 in
theorem cb_38 : Cond.code ⟨"TallySticks$Halves", "findFoil", "(II)Z"⟩ prog_6_method_6_code 5 (some .boolean) ∈ lw_tbl := List.mem_append_right _ (List.mem_append_right _ (List.mem_append_right _ (List.mem_append_right _ (List.mem_append_left _ (List.mem_of_getElem? (i := 186) rfl)))))
set_option maxRecDepth 20000 in
theorem cb_39 : Cond.code ⟨"TallySticks$Halves", "fewestFibres", "(LTallySticks$Chest;)I"⟩ prog_6_method_7_code 6 (some .int) ∈ lw_tbl := List.mem_append_right _ (List.mem_append_right _ (List.mem_append_right _ (List.mem_append_right _ (List.mem_append_left _ (List.mem_of_getElem? (i := 202) rfl)))))
set_option maxRecDepth 20000 in
theorem cb_40 : Cond.code ⟨"TallySticks$Halves", "tellApart", "(II)Z"⟩ prog_6_method_8_code 4 (some .boolean) ∈ lw_tbl := List.mem_append_right _ (List.mem_append_right _ (List.mem_append_right _ (List.mem_append_right _ (List.mem_append_left _ (List.mem_of_getElem? (i := 207) rfl)))))
set_option maxRecDepth 20000 in
theorem cb_41 : Cond.code ⟨"TallySticks$Halves", "toldCount", "(II)I"⟩ prog_6_method_9_code 5 (some .int) ∈ lw_tbl := List.mem_append_right _ (List.mem_append_right _ (List.mem_append_right _ (List.mem_append_right _ (List.mem_append_left _ (List.mem_of_getElem? (i := 215) rfl)))))
set_option maxRecDepth 20000 in
theorem cb_42 : Cond.code ⟨"TallySticks$Halves", "toldMost", "(II)I"⟩ prog_6_method_10_code 4 (some .int) ∈ lw_tbl := List.mem_append_right _ (List.mem_append_right _ (List.mem_append_right _ (List.mem_append_right _ (List.mem_append_left _ (List.mem_of_getElem? (i := 222) rfl)))))
set_option maxRecDepth 20000 in
theorem cb_43 : Cond.code ⟨"TallySticks$Halves", "canHaveTold", "(III)Z"⟩ prog_6_method_11_code 6 (some .boolean) ∈ lw_tbl := List.mem_append_right _ (List.mem_append_right _ (List.mem_append_right _ (List.mem_append_right _ (List.mem_append_left _ (List.mem_of_getElem? (i := 218) rfl)))))
set_option maxRecDepth 20000 in
theorem cb_44 : Cond.code ⟨"TallySticks$Program", "<init>", "(II)V"⟩ prog_7_method_1_code 3 none ∈ lw_tbl := List.mem_append_right _ (List.mem_append_left _ (List.mem_of_getElem? (i := 159) rfl))
set_option maxRecDepth 20000 in
theorem cb_45 : Cond.code ⟨"TallySticks$Program", "trimmed", "()LTallySticks$Program;"⟩ prog_7_method_2_code 2 (some (.object "TallySticks$Program")) ∈ lw_tbl := List.mem_append_right _ (List.mem_append_right _ (List.mem_append_right _ (List.mem_append_right _ (List.mem_append_left _ (List.mem_of_getElem? (i := 19) rfl)))))
set_option maxRecDepth 20000 in
theorem cb_46 : Cond.code ⟨"TallySticks$Program", "headOf", "(II)I"⟩ prog_7_method_3_code 4 (some .int) ∈ lw_tbl := List.mem_append_right _ (List.mem_append_right _ (List.mem_append_left _ (List.mem_of_getElem? (i := 215) rfl)))
set_option maxRecDepth 20000 in
theorem cb_47 : Cond.code ⟨"TallySticks$Program", "clear", "()V"⟩ prog_7_method_4_code 1 none ∈ lw_tbl := List.mem_append_right _ (List.mem_append_right _ (List.mem_append_right _ (List.mem_append_left _ (List.mem_of_getElem? (i := 64) rfl))))
set_option maxRecDepth 20000 in
theorem cb_48 : Cond.code ⟨"TallySticks$Program", "openClause", "(I)V"⟩ prog_7_method_5_code 2 none ∈ lw_tbl := List.mem_append_right _ (List.mem_append_right _ (List.mem_append_right _ (List.mem_append_left _ (List.mem_of_getElem? (i := 137) rfl))))
set_option maxRecDepth 20000 in
theorem cb_49 : Cond.code ⟨"TallySticks$Program", "markFrom", "(I)V"⟩ prog_7_method_6_code 3 none ∈ lw_tbl := List.mem_append_right _ (List.mem_append_right _ (List.mem_append_right _ (List.mem_append_left _ (List.mem_of_getElem? (i := 145) rfl))))
set_option maxRecDepth 20000 in
theorem cb_50 : Cond.code ⟨"TallySticks$Program", "setHead", "(II)V"⟩ prog_7_method_7_code 4 none ∈ lw_tbl := List.mem_append_right _ (List.mem_append_right _ (List.mem_append_right _ (List.mem_append_left _ (List.mem_of_getElem? (i := 141) rfl))))
set_option maxRecDepth 20000 in
theorem cb_51 : Cond.code ⟨"TallySticks$Program", "addStep", "(II)V"⟩ prog_7_method_8_code 3 none ∈ lw_tbl := List.mem_append_right _ (List.mem_append_right _ (List.mem_append_right _ (List.mem_append_left _ (List.mem_of_getElem? (i := 181) rfl))))
set_option maxRecDepth 20000 in
theorem cb_52 : Cond.code ⟨"TallySticks$Program", "aimStep", "(I)V"⟩ prog_7_method_9_code 2 none ∈ lw_tbl := List.mem_append_right _ (List.mem_append_right _ (List.mem_append_right _ (List.mem_append_right _ (List.mem_append_left _ (List.mem_of_getElem? (i := 14) rfl)))))
set_option maxRecDepth 20000 in
theorem cb_53 : Cond.code ⟨"TallySticks$Reader", "<init>", "()V"⟩ prog_8_method_1_code 1 none ∈ lw_tbl := List.mem_append_right _ (List.mem_append_left _ (List.mem_of_getElem? (i := 153) rfl))
set_option maxRecDepth 20000 in
theorem cb_54 : Cond.code ⟨"TallySticks$Reader", "readText", "([IIZ)I"⟩ prog_8_method_2_code 5 (some .int) ∈ lw_tbl := List.mem_append_right _ (List.mem_append_right _ (List.mem_append_right _ (List.mem_append_left _ (List.mem_of_getElem? (i := 59) rfl))))
set_option maxRecDepth 20000 in
theorem cb_55 : Cond.code ⟨"TallySticks$Reader", "readLawHead", "()V"⟩ prog_8_method_3_code 1 none ∈ lw_tbl := List.mem_append_right _ (List.mem_append_right _ (List.mem_append_right _ (List.mem_append_left _ (List.mem_of_getElem? (i := 72) rfl))))
set_option maxRecDepth 20000 in
theorem cb_56 : Cond.code ⟨"TallySticks$Reader", "readOrderHead", "()V"⟩ prog_8_method_4_code 1 none ∈ lw_tbl := List.mem_append_right _ (List.mem_append_right _ (List.mem_append_right _ (List.mem_append_left _ (List.mem_of_getElem? (i := 216) rfl))))
set_option maxRecDepth 20000 in
theorem cb_57 : Cond.code ⟨"TallySticks$Reader", "readOneSum", "(I)V"⟩ prog_8_method_5_code 2 none ∈ lw_tbl := List.mem_append_right _ (List.mem_append_right _ (List.mem_append_right _ (List.mem_append_left _ (List.mem_of_getElem? (i := 133) rfl))))
set_option maxRecDepth 20000 in
theorem cb_58 : Cond.code ⟨"TallySticks$Reader", "readTwoSums", "(ILjava/lang/String;)V"⟩ prog_8_method_6_code 3 none ∈ lw_tbl := List.mem_append_right _ (List.mem_append_right _ (List.mem_append_right _ (List.mem_append_left _ (List.mem_of_getElem? (i := 221) rfl))))
set_option maxRecDepth 20000 in
theorem cb_59 : Cond.code ⟨"TallySticks$Reader", "readCondition", "()V"⟩ prog_8_method_7_code 1 none ∈ lw_tbl := List.mem_append_right _ (List.mem_append_right _ (List.mem_append_right _ (List.mem_append_left _ (List.mem_of_getElem? (i := 231) rfl))))
set_option maxRecDepth 20000 in
theorem cb_60 : Cond.code ⟨"TallySticks$Reader", "readTest", "(I)V"⟩ prog_8_method_8_code 4 none ∈ lw_tbl := List.mem_append_right _ (List.mem_append_right _ (List.mem_append_right _ (List.mem_append_left _ (List.mem_of_getElem? (i := 236) rfl))))
set_option maxRecDepth 20000 in
theorem cb_61 : Cond.code ⟨"TallySticks$Reader", "readBoth", "(I)V"⟩ prog_8_method_9_code 4 none ∈ lw_tbl := List.mem_append_right _ (List.mem_append_right _ (List.mem_append_right _ (List.mem_append_right _ (List.mem_append_left _ (List.mem_of_getElem? (i := 0) rfl)))))
set_option maxRecDepth 20000 in
theorem cb_62 : Cond.code ⟨"TallySticks$Reader", "readPlain", "(I)V"⟩ prog_8_method_10_code 4 none ∈ lw_tbl := List.mem_append_right _ (List.mem_append_right _ (List.mem_append_right _ (List.mem_append_right _ (List.mem_append_left _ (List.mem_of_getElem? (i := 4) rfl)))))
set_option maxRecDepth 20000 in
theorem cb_63 : Cond.code ⟨"TallySticks$Reader", "readSum", "(I)V"⟩ prog_8_method_11_code 4 none ∈ lw_tbl := List.mem_append_right _ (List.mem_append_right _ (List.mem_append_right _ (List.mem_append_left _ (List.mem_of_getElem? (i := 149) rfl))))
set_option maxRecDepth 20000 in
theorem cb_64 : Cond.code ⟨"TallySticks$Reader", "readTerm", "(I)V"⟩ prog_8_method_12_code 4 none ∈ lw_tbl := List.mem_append_right _ (List.mem_append_right _ (List.mem_append_right _ (List.mem_append_left _ (List.mem_of_getElem? (i := 153) rfl))))
set_option maxRecDepth 20000 in
theorem cb_65 : Cond.code ⟨"TallySticks$Reader", "readPart", "(I)V"⟩ prog_8_method_13_code 2 none ∈ lw_tbl := List.mem_append_right _ (List.mem_append_right _ (List.mem_append_right _ (List.mem_append_left _ (List.mem_of_getElem? (i := 157) rfl))))
set_option maxRecDepth 20000 in
theorem cb_66 : Cond.code ⟨"TallySticks$Reader", "readWord", "(I)V"⟩ prog_8_method_14_code 3 none ∈ lw_tbl := List.mem_append_right _ (List.mem_append_right _ (List.mem_append_right _ (List.mem_append_left _ (List.mem_of_getElem? (i := 205) rfl))))
set_option maxRecDepth 20000 in
theorem cb_67 : Cond.code ⟨"TallySticks$Reader", "lawWord", "()I"⟩ prog_8_method_15_code 1 (some .int) ∈ lw_tbl := List.mem_append_right _ (List.mem_append_right _ (List.mem_append_right _ (List.mem_append_left _ (List.mem_of_getElem? (i := 185) rfl))))
set_option maxRecDepth 20000 in
theorem cb_68 : Cond.code ⟨"TallySticks$Reader", "orderWord", "()I"⟩ prog_8_method_16_code 1 (some .int) ∈ lw_tbl := List.mem_append_right _ (List.mem_append_right _ (List.mem_append_right _ (List.mem_append_left _ (List.mem_of_getElem? (i := 198) rfl))))
set_option maxRecDepth 20000 in
theorem cb_69 : Cond.code ⟨"TallySticks$Reader", "takeComparison", "()I"⟩ prog_8_method_17_code 2 (some .int) ∈ lw_tbl := List.mem_append_right _ (List.mem_append_right _ (List.mem_append_right _ (List.mem_append_right _ (List.mem_append_left _ (List.mem_of_getElem? (i := 9) rfl)))))
set_option maxRecDepth 20000 in
theorem cb_70 : Cond.code ⟨"TallySticks$Reader", "readNumber", "(II)I"⟩ prog_8_method_18_code 4 (some .int) ∈ lw_tbl := List.mem_append_right _ (List.mem_append_right _ (List.mem_append_right _ (List.mem_append_left _ (List.mem_of_getElem? (i := 177) rfl))))
set_option maxRecDepth 20000 in
theorem cb_71 : Cond.code ⟨"TallySticks$Reader", "opensBracket", "(CI)Z"⟩ prog_8_method_19_code 3 (some .boolean) ∈ lw_tbl := List.mem_append_right _ (List.mem_append_right _ (List.mem_append_right _ (List.mem_append_left _ (List.mem_of_getElem? (i := 161) rfl))))
set_option maxRecDepth 20000 in
theorem cb_72 : Cond.code ⟨"TallySticks$Reader", "closeBracket", "(C)V"⟩ prog_8_method_20_code 2 none ∈ lw_tbl := List.mem_append_right _ (List.mem_append_right _ (List.mem_append_right _ (List.mem_append_left _ (List.mem_of_getElem? (i := 173) rfl))))
set_option maxRecDepth 20000 in
theorem cb_73 : Cond.code ⟨"TallySticks$Reader", "fail", "()V"⟩ prog_8_method_21_code 1 none ∈ lw_tbl := List.mem_append_right _ (List.mem_append_right _ (List.mem_append_right _ (List.mem_append_left _ (List.mem_of_getElem? (i := 169) rfl))))
set_option maxRecDepth 20000 in
theorem cb_74 : Cond.code ⟨"TallySticks$Reader", "isSign", "(C)Z"⟩ prog_8_method_22_code 2 (some .boolean) ∈ lw_tbl := List.mem_append_right _ (List.mem_append_right _ (List.mem_append_right _ (List.mem_append_left _ (List.mem_of_getElem? (i := 165) rfl))))
set_option maxRecDepth 20000 in
theorem cb_75 : Cond.code ⟨"TallySticks$Reader", "takeSign", "(C)Z"⟩ prog_8_method_23_code 2 (some .boolean) ∈ lw_tbl := List.mem_append_right _ (List.mem_append_right _ (List.mem_append_right _ (List.mem_append_left _ (List.mem_of_getElem? (i := 209) rfl))))
set_option maxRecDepth 20000 in
theorem cb_76 : Cond.code ⟨"TallySticks$Reader", "isWord", "(Ljava/lang/String;)Z"⟩ prog_8_method_24_code 3 (some .boolean) ∈ lw_tbl := List.mem_append_right _ (List.mem_append_right _ (List.mem_append_right _ (List.mem_append_left _ (List.mem_of_getElem? (i := 81) rfl))))
set_option maxRecDepth 20000 in
theorem cb_77 : Cond.code ⟨"TallySticks$Reader", "takeWord", "(Ljava/lang/String;)Z"⟩ prog_8_method_25_code 2 (some .boolean) ∈ lw_tbl := List.mem_append_right _ (List.mem_append_right _ (List.mem_append_right _ (List.mem_append_left _ (List.mem_of_getElem? (i := 77) rfl))))
set_option maxRecDepth 20000 in
theorem cb_78 : Cond.code ⟨"TallySticks$Reader", "advance", "()V"⟩ prog_8_method_26_code 2 none ∈ lw_tbl := List.mem_append_right _ (List.mem_append_right _ (List.mem_append_right _ (List.mem_append_left _ (List.mem_of_getElem? (i := 68) rfl))))
set_option maxRecDepth 20000 in
theorem cb_79 : Cond.code ⟨"TallySticks$Rules", "<init>", "()V"⟩ prog_9_method_1_code 1 none ∈ lw_tbl := List.mem_append_right _ (List.mem_append_left _ (List.mem_of_getElem? (i := 217) rfl))
set_option maxRecDepth 20000 in
theorem cb_80 : Cond.code ⟨"TallySticks$Rules", "startOrders", "(LTallySticks$Chest;)V"⟩ prog_9_method_2_code 2 none ∈ lw_tbl := List.mem_append_right _ (List.mem_append_right _ (List.mem_append_right _ (List.mem_append_right _ (List.mem_append_left _ (List.mem_of_getElem? (i := 47) rfl)))))
set_option maxRecDepth 20000 in
theorem cb_81 : Cond.code ⟨"TallySticks$Rules", "payOf", "(LTallySticks$Chest;I)I"⟩ prog_9_method_3_code 3 (some .int) ∈ lw_tbl := List.mem_append_right _ (List.mem_append_right _ (List.mem_append_left _ (List.mem_of_getElem? (i := 202) rfl)))
set_option maxRecDepth 20000 in
theorem cb_82 : Cond.code ⟨"TallySticks$Rules", "wearOf", "(LTallySticks$Chest;I)I"⟩ prog_9_method_4_code 3 (some .int) ∈ lw_tbl := List.mem_append_right _ (List.mem_append_right _ (List.mem_append_right _ (List.mem_append_left _ (List.mem_of_getElem? (i := 0) rfl))))
set_option maxRecDepth 20000 in
theorem cb_83 : Cond.code ⟨"TallySticks$Rules", "clamp", "(II)I"⟩ prog_9_method_5_code 2 (some .int) ∈ lw_tbl := List.mem_append_right _ (List.mem_append_right _ (List.mem_append_left _ (List.mem_of_getElem? (i := 236) rfl)))
set_option maxRecDepth 20000 in
theorem cb_84 : Cond.code ⟨"TallySticks$Rules", "lastTold", "(LTallySticks$Chest;III)I"⟩ prog_9_method_6_code 9 (some .int) ∈ lw_tbl := List.mem_append_right _ (List.mem_append_right _ (List.mem_append_left _ (List.mem_of_getElem? (i := 206) rfl)))
set_option maxRecDepth 20000 in
theorem cb_85 : Cond.code ⟨"TallySticks$Rules", "isBarred", "(LTallySticks$Chest;II)Z"⟩ prog_9_method_7_code 6 (some .boolean) ∈ lw_tbl := List.mem_append_right _ (List.mem_append_right _ (List.mem_append_right _ (List.mem_append_right _ (List.mem_append_left _ (List.mem_of_getElem? (i := 77) rfl)))))
set_option maxRecDepth 20000 in
theorem cb_86 : Cond.code ⟨"TallySticks$Rules", "tryGive", "(LTallySticks$Chest;II)I"⟩ prog_9_method_8_code 5 (some .int) ∈ lw_tbl := List.mem_append_right _ (List.mem_append_right _ (List.mem_append_right _ (List.mem_append_right _ (List.mem_append_left _ (List.mem_of_getElem? (i := 67) rfl)))))
set_option maxRecDepth 20000 in
theorem cb_87 : Cond.code ⟨"TallySticks$Rules", "tryCall", "(LTallySticks$Chest;I)I"⟩ prog_9_method_9_code 4 (some .int) ∈ lw_tbl := List.mem_append_right _ (List.mem_append_right _ (List.mem_append_right _ (List.mem_append_right _ (List.mem_append_left _ (List.mem_of_getElem? (i := 81) rfl)))))
set_option maxRecDepth 20000 in
theorem cb_88 : Cond.code ⟨"TallySticks$Rules", "tryShave", "(LTallySticks$Chest;II)I"⟩ prog_9_method_10_code 4 (some .int) ∈ lw_tbl := List.mem_append_right _ (List.mem_append_right _ (List.mem_append_right _ (List.mem_append_right _ (List.mem_append_left _ (List.mem_of_getElem? (i := 96) rfl)))))
set_option maxRecDepth 20000 in
theorem cb_89 : Cond.code ⟨"TallySticks$Rules", "tryPass", "(LTallySticks$Chest;)I"⟩ prog_9_method_11_code 2 (some .int) ∈ lw_tbl := List.mem_append_right _ (List.mem_append_right _ (List.mem_append_right _ (List.mem_append_right _ (List.mem_append_left _ (List.mem_of_getElem? (i := 100) rfl)))))
set_option maxRecDepth 20000 in
theorem cb_90 : Cond.code ⟨"TallySticks$Rules", "compute", "(LTallySticks$Program;II)I"⟩ prog_9_method_12_code 9 (some .int) ∈ lw_tbl := List.mem_append_right _ (List.mem_append_right _ (List.mem_append_left _ (List.mem_of_getElem? (i := 219) rfl)))
set_option maxRecDepth 20000 in
theorem cb_91 : Cond.code ⟨"TallySticks$Rules", "combine", "(III)I"⟩ prog_9_method_13_code 5 (some .int) ∈ lw_tbl := List.mem_append_right _ (List.mem_append_right _ (List.mem_append_left _ (List.mem_of_getElem? (i := 231) rfl)))
set_option maxRecDepth 20000 in
theorem cb_92 : Cond.code ⟨"TallySticks$Rules", "wordValue", "(II)I"⟩ prog_9_method_14_code 4 (some .int) ∈ lw_tbl := List.mem_append_right _ (List.mem_append_right _ (List.mem_append_left _ (List.mem_of_getElem? (i := 227) rfl)))
set_option maxRecDepth 20000 in
theorem cb_93 : Cond.code ⟨"TallySticks", "<init>", "()V"⟩ prog_1_method_1_code 1 none ∈ lw_tbl := List.mem_append_right _ (List.mem_append_left _ (List.mem_of_getElem? (i := 22) rfl))
set_option maxRecDepth 20000 in
theorem cb_94 : Cond.code ⟨"TallySticks", "person", "(I)I"⟩ prog_1_method_2_code 2 (some .int) ∈ lw_tbl := List.mem_append_right _ (List.mem_append_right _ (List.mem_append_left _ (List.mem_of_getElem? (i := 143) rfl)))
set_option maxRecDepth 20000 in
theorem cb_95 : Cond.code ⟨"TallySticks", "of", "(II)I"⟩ prog_1_method_3_code 3 (some .int) ∈ lw_tbl := List.mem_append_right _ (List.mem_append_right _ (List.mem_append_left _ (List.mem_of_getElem? (i := 163) rfl)))
set_option maxRecDepth 20000 in
theorem cb_96 : Cond.code ⟨"TallySticks", "stick", "(IIIIII)I"⟩ prog_1_method_4_code 7 (some .int) ∈ lw_tbl := List.mem_append_right _ (List.mem_append_right _ (List.mem_append_left _ (List.mem_of_getElem? (i := 180) rfl)))
set_option maxRecDepth 20000 in
theorem cb_97 : Cond.code ⟨"TallySticks", "at", "(II)I"⟩ prog_1_method_5_code 3 (some .int) ∈ lw_tbl := List.mem_append_right _ (List.mem_append_right _ (List.mem_append_left _ (List.mem_of_getElem? (i := 194) rfl)))
set_option maxRecDepth 20000 in
theorem cb_98 : Cond.code ⟨"TallySticks", "foil", "(II)I"⟩ prog_1_method_6_code 3 (some .int) ∈ lw_tbl := List.mem_append_right _ (List.mem_append_right _ (List.mem_append_right _ (List.mem_append_left _ (List.mem_of_getElem? (i := 4) rfl))))
set_option maxRecDepth 20000 in
theorem cb_99 : Cond.code ⟨"TallySticks", "half", "(II)I"⟩ prog_1_method_7_code 3 (some .int) ∈ lw_tbl := List.mem_append_right _ (List.mem_append_right _ (List.mem_append_right _ (List.mem_append_left _ (List.mem_of_getElem? (i := 12) rfl))))
set_option maxRecDepth 20000 in
theorem cb_100 : Cond.code ⟨"TallySticks", "terms", "(II)I"⟩ prog_1_method_8_code 4 (some .int) ∈ lw_tbl := List.mem_append_right _ (List.mem_append_right _ (List.mem_append_right _ (List.mem_append_left _ (List.mem_of_getElem? (i := 20) rfl))))
set_option maxRecDepth 20000 in
theorem cb_101 : Cond.code ⟨"TallySticks", "feed", "(IIIII)I"⟩ prog_1_method_9_code 6 (some .int) ∈ lw_tbl := List.mem_append_right _ (List.mem_append_right _ (List.mem_append_right _ (List.mem_append_left _ (List.mem_of_getElem? (i := 27) rfl))))
set_option maxRecDepth 20000 in
theorem cb_102 : Cond.code ⟨"TallySticks", "end", "(I)I"⟩ prog_1_method_10_code 2 (some .int) ∈ lw_tbl := List.mem_append_right _ (List.mem_append_right _ (List.mem_append_right _ (List.mem_append_left _ (List.mem_of_getElem? (i := 35) rfl))))
set_option maxRecDepth 20000 in
theorem cb_103 : Cond.code ⟨"TallySticks", "row", "()I"⟩ prog_1_method_11_code 5 (some .int) ∈ lw_tbl := List.mem_append_right _ (List.mem_append_right _ (List.mem_append_right _ (List.mem_append_left _ (List.mem_of_getElem? (i := 39) rfl))))
set_option maxRecDepth 20000 in
theorem cb_104 : Cond.code ⟨"TallySticks", "chips", "()I"⟩ prog_1_method_12_code 1 (some .int) ∈ lw_tbl := List.mem_append_right _ (List.mem_append_right _ (List.mem_append_right _ (List.mem_append_left _ (List.mem_of_getElem? (i := 51) rfl))))
set_option maxRecDepth 20000 in
theorem cb_105 : Cond.code ⟨"TallySticks", "law", "()I"⟩ prog_1_method_13_code 2 (some .int) ∈ lw_tbl := List.mem_append_right _ (List.mem_append_right _ (List.mem_append_right _ (List.mem_append_left _ (List.mem_of_getElem? (i := 55) rfl))))
set_option maxRecDepth 20000 in
theorem cb_106 : Cond.code ⟨"TallySticks", "orders", "()I"⟩ prog_1_method_14_code 5 (some .int) ∈ lw_tbl := List.mem_append_right _ (List.mem_append_right _ (List.mem_append_right _ (List.mem_append_right _ (List.mem_append_left _ (List.mem_of_getElem? (i := 33) rfl)))))
set_option maxRecDepth 20000 in
theorem cb_107 : Cond.code ⟨"TallySticks", "fault", "()I"⟩ prog_1_method_15_code 1 (some .int) ∈ lw_tbl := List.mem_append_right _ (List.mem_append_right _ (List.mem_append_right _ (List.mem_append_right _ (List.mem_append_left _ (List.mem_of_getElem? (i := 108) rfl)))))
set_option maxRecDepth 20000 in
theorem cb_108 : Cond.code ⟨"TallySticks", "stopped", "()I"⟩ prog_1_method_16_code 1 (some .int) ∈ lw_tbl := List.mem_append_right _ (List.mem_append_right _ (List.mem_append_right _ (List.mem_append_right _ (List.mem_append_left _ (List.mem_of_getElem? (i := 112) rfl)))))
set_option maxRecDepth 20000 in
theorem cb_109 : Cond.code ⟨"TallySticks", "force", "(I)I"⟩ prog_1_method_17_code 3 (some .int) ∈ lw_tbl := List.mem_append_right _ (List.mem_append_right _ (List.mem_append_right _ (List.mem_append_right _ (List.mem_append_left _ (List.mem_of_getElem? (i := 116) rfl)))))
set_option maxRecDepth 20000 in
theorem cb_110 : Cond.code ⟨"TallySticks", "asks", "(II)I"⟩ prog_1_method_18_code 3 (some .int) ∈ lw_tbl := List.mem_append_right _ (List.mem_append_right _ (List.mem_append_right _ (List.mem_append_right _ (List.mem_append_left _ (List.mem_of_getElem? (i := 120) rfl)))))
set_option maxRecDepth 20000 in
theorem cb_111 : Cond.code ⟨"TallySticks", "give", "(II)I"⟩ prog_1_method_19_code 3 (some .int) ∈ lw_tbl := List.mem_append_right _ (List.mem_append_right _ (List.mem_append_right _ (List.mem_append_right _ (List.mem_append_left _ (List.mem_of_getElem? (i := 125) rfl)))))
set_option maxRecDepth 20000 in
theorem cb_112 : Cond.code ⟨"TallySticks", "call", "(I)I"⟩ prog_1_method_20_code 2 (some .int) ∈ lw_tbl := List.mem_append_right _ (List.mem_append_right _ (List.mem_append_right _ (List.mem_append_right _ (List.mem_append_left _ (List.mem_of_getElem? (i := 133) rfl)))))
set_option maxRecDepth 20000 in
theorem cb_113 : Cond.code ⟨"TallySticks", "shave", "(II)I"⟩ prog_1_method_21_code 3 (some .int) ∈ lw_tbl := List.mem_append_right _ (List.mem_append_right _ (List.mem_append_right _ (List.mem_append_right _ (List.mem_append_left _ (List.mem_of_getElem? (i := 137) rfl)))))
set_option maxRecDepth 20000 in
theorem cb_114 : Cond.code ⟨"TallySticks", "pass", "()I"⟩ prog_1_method_22_code 1 (some .int) ∈ lw_tbl := List.mem_append_right _ (List.mem_append_right _ (List.mem_append_right _ (List.mem_append_right _ (List.mem_append_left _ (List.mem_of_getElem? (i := 141) rfl)))))
set_option maxRecDepth 20000 in
theorem cb_115 : Cond.code ⟨"TallySticks", "undo", "()I"⟩ prog_1_method_23_code 1 (some .int) ∈ lw_tbl := List.mem_append_right _ (List.mem_append_right _ (List.mem_append_right _ (List.mem_append_right _ (List.mem_append_left _ (List.mem_of_getElem? (i := 145) rfl)))))
set_option maxRecDepth 20000 in
theorem cb_116 : Cond.code ⟨"TallySticks", "fit", "(III)I"⟩ prog_1_method_24_code 4 (some .int) ∈ lw_tbl := List.mem_append_right _ (List.mem_append_right _ (List.mem_append_right _ (List.mem_append_right _ (List.mem_append_left _ (List.mem_of_getElem? (i := 153) rfl)))))
set_option maxRecDepth 20000 in
theorem cb_117 : Cond.code ⟨"TallySticks", "match", "(I)I"⟩ prog_1_method_25_code 3 (some .int) ∈ lw_tbl := List.mem_append_right _ (List.mem_append_right _ (List.mem_append_right _ (List.mem_append_right _ (List.mem_append_left _ (List.mem_of_getElem? (i := 168) rfl)))))
set_option maxRecDepth 20000 in
theorem cb_118 : Cond.code ⟨"TallySticks", "odd", "()I"⟩ prog_1_method_26_code 1 (some .int) ∈ lw_tbl := List.mem_append_right _ (List.mem_append_right _ (List.mem_append_right _ (List.mem_append_right _ (List.mem_append_left _ (List.mem_of_getElem? (i := 190) rfl)))))
set_option maxRecDepth 20000 in
theorem cb_119 : Cond.code ⟨"TallySticks", "apart", "(I)I"⟩ prog_1_method_27_code 3 (some .int) ∈ lw_tbl := List.mem_append_right _ (List.mem_append_right _ (List.mem_append_right _ (List.mem_append_right _ (List.mem_append_left _ (List.mem_of_getElem? (i := 198) rfl)))))
set_option maxRecDepth 20000 in
theorem cb_120 : Cond.code ⟨"TallySticks", "told", "(III)I"⟩ prog_1_method_28_code 4 (some .int) ∈ lw_tbl := List.mem_append_right _ (List.mem_append_right _ (List.mem_append_right _ (List.mem_append_right _ (List.mem_append_left _ (List.mem_of_getElem? (i := 211) rfl)))))
set_option maxRecDepth 20000 in
theorem cb_121 : Cond.code ⟨"TallySticks", "settle", "(I)I"⟩ prog_1_method_29_code 3 (some .int) ∈ lw_tbl := List.mem_append_right _ (List.mem_append_right _ (List.mem_append_right _ (List.mem_append_right _ (List.mem_append_left _ (List.mem_of_getElem? (i := 226) rfl)))))
set_option maxRecDepth 20000 in
theorem cb_122 : Cond.code ⟨"TallySticks", "ring", "(I)I"⟩ prog_1_method_30_code 3 (some .int) ∈ lw_tbl := List.mem_append_right _ (List.mem_append_right _ (List.mem_append_right _ (List.mem_append_right _ (List.mem_append_right _ (List.mem_append_left _ (List.mem_of_getElem? (i := 5) rfl))))))
set_option maxRecDepth 20000 in
theorem cb_123 : Cond.code ⟨"TallySticks", "chain", "(II)I"⟩ prog_1_method_31_code 3 (some .int) ∈ lw_tbl := List.mem_append_right _ (List.mem_append_right _ (List.mem_append_right _ (List.mem_append_right _ (List.mem_append_right _ (List.mem_append_left _ (List.mem_of_getElem? (i := 18) rfl))))))
set_option maxRecDepth 20000 in
theorem cb_124 : Cond.code ⟨"TallySticks", "calls", "(I)I"⟩ prog_1_method_32_code 2 (some .int) ∈ lw_tbl := List.mem_append_right _ (List.mem_append_right _ (List.mem_append_right _ (List.mem_append_right _ (List.mem_append_right _ (List.mem_append_left _ (List.mem_of_getElem? (i := 26) rfl))))))
set_option maxRecDepth 20000 in
theorem cb_125 : Cond.code ⟨"TallySticks", "years", "(II)I"⟩ prog_1_method_33_code 8 (some .int) ∈ lw_tbl := List.mem_append_right _ (List.mem_append_right _ (List.mem_append_right _ (List.mem_append_right _ (List.mem_append_right _ (List.mem_append_left _ (List.mem_of_getElem? (i := 42) rfl))))))
set_option maxRecDepth 20000 in
theorem cb_126 : Cond.code ⟨"TallySticks", "drawn", "(II)I"⟩ prog_1_method_34_code 4 (some .int) ∈ lw_tbl := List.mem_append_right _ (List.mem_append_right _ (List.mem_append_right _ (List.mem_append_right _ (List.mem_append_right _ (List.mem_append_left _ (List.mem_of_getElem? (i := 51) rfl))))))
set_option maxRecDepth 20000 in
theorem cb_127 : Cond.code ⟨"TallySticks", "image", "(I)I"⟩ prog_1_method_35_code 3 (some .int) ∈ lw_tbl := List.mem_append_right _ (List.mem_append_right _ (List.mem_append_right _ (List.mem_append_right _ (List.mem_append_right _ (List.mem_append_left _ (List.mem_of_getElem? (i := 55) rfl))))))
set_option maxRecDepth 20000 in
theorem cb_128 : Cond.code ⟨"TallySticks", "back", "(I)I"⟩ prog_1_method_36_code 3 (some .int) ∈ lw_tbl := List.mem_append_right _ (List.mem_append_right _ (List.mem_append_right _ (List.mem_append_right _ (List.mem_append_right _ (List.mem_append_left _ (List.mem_of_getElem? (i := 59) rfl))))))
set_option maxRecDepth 20000 in
theorem cb_129 : Cond.code ⟨"TallySticks", "count", "(I)I"⟩ prog_1_method_37_code 2 (some .int) ∈ lw_tbl := List.mem_append_right _ (List.mem_append_right _ (List.mem_append_right _ (List.mem_append_right _ (List.mem_append_right _ (List.mem_append_left _ (List.mem_of_getElem? (i := 63) rfl))))))
set_option maxRecDepth 20000 in
theorem cb_130 : Cond.code ⟨"TallySticks", "status", "()I"⟩ prog_1_method_38_code 1 (some .int) ∈ lw_tbl := List.mem_append_right _ (List.mem_append_right _ (List.mem_append_right _ (List.mem_append_right _ (List.mem_append_right _ (List.mem_append_left _ (List.mem_of_getElem? (i := 71) rfl))))))
set_option maxRecDepth 20000 in
theorem cb_131 : Cond.code ⟨"TallySticks", "isSum", "(I)Z"⟩ prog_1_method_39_code 1 (some .boolean) ∈ lw_tbl := List.mem_append_right _ (List.mem_append_right _ (List.mem_append_left _ (List.mem_of_getElem? (i := 183) rfl)))
set_option maxRecDepth 20000 in
theorem cb_132 : Cond.code ⟨"TallySticks", "isGrain", "(I)Z"⟩ prog_1_method_40_code 1 (some .boolean) ∈ lw_tbl := List.mem_append_right _ (List.mem_append_right _ (List.mem_append_left _ (List.mem_of_getElem? (i := 186) rfl)))
set_option maxRecDepth 20000 in
theorem cb_133 : Cond.code ⟨"TallySticks", "lastOfTerm", "(I)I"⟩ prog_1_method_41_code 1 (some .int) ∈ lw_tbl := List.mem_append_right _ (List.mem_append_right _ (List.mem_append_right _ (List.mem_append_left _ (List.mem_of_getElem? (i := 23) rfl))))
set_option maxRecDepth 20000 in
theorem cb_134 : Cond.code ⟨"TallySticks", "accept", "(I)I"⟩ prog_1_method_42_code 2 (some .int) ∈ lw_tbl := List.mem_append_right _ (List.mem_append_right _ (List.mem_append_left _ (List.mem_of_getElem? (i := 159) rfl)))
set_option maxRecDepth 20000 in
theorem cb_135 : Cond.code ⟨"TallySticks", "refuse", "(I)I"⟩ prog_1_method_43_code 3 (some .int) ∈ lw_tbl := List.mem_append_right _ (List.mem_append_right _ (List.mem_append_left _ (List.mem_of_getElem? (i := 147) rfl)))
set_option maxRecDepth 20000 in
theorem cb_136 : Cond.code ⟨"TallySticks", "answer", "(I)I"⟩ prog_1_method_44_code 2 (some .int) ∈ lw_tbl := List.mem_append_right _ (List.mem_append_right _ (List.mem_append_right _ (List.mem_append_right _ (List.mem_append_left _ (List.mem_of_getElem? (i := 129) rfl)))))
set_option maxRecDepth 20000 in
theorem cb_137 : Cond.code ⟨"TallySticks", "perform", "(III)I"⟩ prog_1_method_45_code 5 (some .int) ∈ lw_tbl := List.mem_append_right _ (List.mem_append_right _ (List.mem_append_right _ (List.mem_append_right _ (List.mem_append_left _ (List.mem_of_getElem? (i := 58) rfl)))))
set_option maxRecDepth 20000 in
theorem cb_138 : Cond.code ⟨"TallySticks", "runOrder", "(LTallySticks$Program;I)Z"⟩ prog_1_method_46_code 9 (some .boolean) ∈ lw_tbl := List.mem_append_right _ (List.mem_append_right _ (List.mem_append_right _ (List.mem_append_right _ (List.mem_append_left _ (List.mem_of_getElem? (i := 52) rfl)))))
set_option maxRecDepth 20000 in
theorem cb_139 : Cond.code ⟨"TallySticks", "nextDraw", "(I)I"⟩ prog_1_method_47_code 1 (some .int) ∈ lw_tbl := List.mem_append_right _ (List.mem_append_right _ (List.mem_append_right _ (List.mem_append_right _ (List.mem_append_right _ (List.mem_append_left _ (List.mem_of_getElem? (i := 46) rfl))))))
set_option maxRecDepth 20000 in
theorem cb_140 : Cond.code ⟨"TallySticks", "emptyTape", "()I"⟩ prog_1_method_48_code 2 (some .int) ∈ lw_tbl := List.mem_append_right _ (List.mem_append_right _ (List.mem_append_right _ (List.mem_append_left _ (List.mem_of_getElem? (i := 43) rfl))))
set_option maxRecDepth 20000 in
theorem cb_141 : Cond.code ⟨"TallySticks", "putBytes", "(I)V"⟩ prog_1_method_49_code 3 none ∈ lw_tbl := List.mem_append_right _ (List.mem_append_right _ (List.mem_append_right _ (List.mem_append_left _ (List.mem_of_getElem? (i := 31) rfl))))
set_option maxRecDepth 20000 in
theorem cb_142 : Cond.code ⟨"TallySticks", "cutFoil", "(III)Z"⟩ prog_1_method_50_code 4 (some .boolean) ∈ lw_tbl := List.mem_append_right _ (List.mem_append_right _ (List.mem_append_right _ (List.mem_append_left _ (List.mem_of_getElem? (i := 47) rfl))))
set_option maxRecDepth 20000 in
theorem cb_143 : Cond.code ⟨"TallySticksModel", "lies", "(III)Z"⟩ prog_11_method_1_code 3 (some .boolean) ∈ lw_tbl := List.mem_append_right _ (List.mem_append_right _ (List.mem_append_right _ (List.mem_append_right _ (List.mem_append_right _ (List.mem_append_right _ (List.mem_append_left _ (List.mem_of_getElem? (i := 15) rfl)))))))
set_option maxRecDepth 20000 in
theorem cb_144 : Cond.code ⟨"TallySticksModel", "refuses", "(I)I"⟩ prog_11_method_2_code 2 (some .int) ∈ lw_tbl := List.mem_append_right _ (List.mem_append_right _ (List.mem_append_right _ (List.mem_append_right _ (List.mem_append_right _ (List.mem_append_right _ (List.mem_append_left _ (List.mem_of_getElem? (i := 19) rfl)))))))
set_option maxRecDepth 20000 in
theorem cb_145 : Cond.code ⟨"TallySticksModel", "good", "(I)I"⟩ prog_11_method_3_code 2 (some .int) ∈ lw_tbl := List.mem_append_right _ (List.mem_append_right _ (List.mem_append_right _ (List.mem_append_right _ (List.mem_append_right _ (List.mem_append_right _ (List.mem_append_left _ (List.mem_of_getElem? (i := 23) rfl)))))))
set_option maxRecDepth 20000 in
theorem cb_146 : Cond.code ⟨"TallySticksModel", "settled", "(I)I"⟩ prog_11_method_4_code 2 (some .int) ∈ lw_tbl := List.mem_append_right _ (List.mem_append_right _ (List.mem_append_right _ (List.mem_append_right _ (List.mem_append_right _ (List.mem_append_right _ (List.mem_append_left _ (List.mem_of_getElem? (i := 31) rfl)))))))
set_option maxRecDepth 20000 in
theorem cb_147 : Cond.code ⟨"TallySticksModel", "isIn", "(II)Z"⟩ prog_11_method_5_code 2 (some .boolean) ∈ lw_tbl := List.mem_append_right _ (List.mem_append_right _ (List.mem_append_right _ (List.mem_append_right _ (List.mem_append_right _ (List.mem_append_right _ (List.mem_append_right _ (List.mem_append_left _ (List.mem_of_getElem? (i := 144) rfl))))))))
set_option maxRecDepth 20000 in
theorem cb_148 : Cond.code ⟨"TallySticksModel", "ones", "(I)I"⟩ prog_11_method_6_code 3 (some .int) ∈ lw_tbl := List.mem_append_right _ (List.mem_append_right _ (List.mem_append_right _ (List.mem_append_right _ (List.mem_append_right _ (List.mem_append_right _ (List.mem_append_right _ (List.mem_append_left _ (List.mem_of_getElem? (i := 121) rfl))))))))
set_option maxRecDepth 20000 in
theorem cb_149 : Cond.code ⟨"TallySticksModel", "lesser", "(II)I"⟩ prog_11_method_7_code 2 (some .int) ∈ lw_tbl := List.mem_append_right _ (List.mem_append_right _ (List.mem_append_right _ (List.mem_append_right _ (List.mem_append_right _ (List.mem_append_right _ (List.mem_append_right _ (List.mem_append_left _ (List.mem_of_getElem? (i := 94) rfl))))))))
set_option maxRecDepth 20000 in
theorem cb_150 : Cond.code ⟨"TallySticksModel", "greater", "(II)I"⟩ prog_11_method_8_code 2 (some .int) ∈ lw_tbl := List.mem_append_right _ (List.mem_append_right _ (List.mem_append_right _ (List.mem_append_right _ (List.mem_append_right _ (List.mem_append_right _ (List.mem_append_right _ (List.mem_append_left _ (List.mem_of_getElem? (i := 147) rfl))))))))
set_option maxRecDepth 20000 in
theorem cb_151 : Cond.code ⟨"TallySticksModel", "<init>", "()V"⟩ prog_11_method_9_code 1 none ∈ lw_tbl := List.mem_append_right _ (List.mem_append_right _ (List.mem_append_right _ (List.mem_append_right _ (List.mem_append_right _ (List.mem_append_left _ (List.mem_of_getElem? (i := 76) rfl))))))
set_option maxRecDepth 20000 in
theorem cb_152 : Cond.code ⟨"TallySticksModel", "laysAside", "(I)V"⟩ prog_11_method_10_code 3 none ∈ lw_tbl := List.mem_append_right _ (List.mem_append_right _ (List.mem_append_right _ (List.mem_append_right _ (List.mem_append_right _ (List.mem_append_right _ (List.mem_append_right _ (List.mem_append_left _ (List.mem_of_getElem? (i := 218) rfl))))))))
set_option maxRecDepth 20000 in
theorem cb_153 : Cond.code ⟨"TallySticksModel", "takesBack", "(I)V"⟩ prog_11_method_11_code 3 none ∈ lw_tbl := List.mem_append_right _ (List.mem_append_right _ (List.mem_append_right _ (List.mem_append_right _ (List.mem_append_right _ (List.mem_append_right _ (List.mem_append_right _ (List.mem_append_left _ (List.mem_of_getElem? (i := 222) rfl))))))))
set_option maxRecDepth 20000 in
theorem cb_154 : Cond.code ⟨"TallySticksModel", "image", "(I)I"⟩ prog_11_method_12_code 3 (some .int) ∈ lw_tbl := List.mem_append_right _ (List.mem_append_right _ (List.mem_append_right _ (List.mem_append_right _ (List.mem_append_right _ (List.mem_append_right _ (List.mem_append_left _ (List.mem_of_getElem? (i := 12) rfl)))))))
set_option maxRecDepth 20000 in
theorem cb_155 : Cond.code ⟨"TallySticksModel", "back", "(I)I"⟩ prog_11_method_13_code 3 (some .int) ∈ lw_tbl := List.mem_append_right _ (List.mem_append_right _ (List.mem_append_right _ (List.mem_append_right _ (List.mem_append_right _ (List.mem_append_right _ (List.mem_append_left _ (List.mem_of_getElem? (i := 27) rfl)))))))
set_option maxRecDepth 20000 in
theorem cb_156 : Cond.code ⟨"TallySticksModel", "isPerson", "(I)Z"⟩ prog_11_method_14_code 2 (some .boolean) ∈ lw_tbl := List.mem_append_right _ (List.mem_append_right _ (List.mem_append_right _ (List.mem_append_right _ (List.mem_append_right _ (List.mem_append_right _ (List.mem_append_left _ (List.mem_of_getElem? (i := 43) rfl)))))))
set_option maxRecDepth 20000 in
theorem cb_157 : Cond.code ⟨"TallySticksModel", "isStick", "(I)Z"⟩ prog_11_method_15_code 2 (some .boolean) ∈ lw_tbl := List.mem_append_right _ (List.mem_append_right _ (List.mem_append_right _ (List.mem_append_right _ (List.mem_append_right _ (List.mem_append_right _ (List.mem_append_left _ (List.mem_of_getElem? (i := 71) rfl)))))))
set_option maxRecDepth 20000 in
theorem cb_158 : Cond.code ⟨"TallySticksModel", "isFoil", "(I)Z"⟩ prog_11_method_16_code 2 (some .boolean) ∈ lw_tbl := List.mem_append_right _ (List.mem_append_right _ (List.mem_append_right _ (List.mem_append_right _ (List.mem_append_right _ (List.mem_append_right _ (List.mem_append_left _ (List.mem_of_getElem? (i := 152) rfl)))))))
set_option maxRecDepth 20000 in
theorem cb_159 : Cond.code ⟨"TallySticksModel", "isPaid", "(I)Z"⟩ prog_11_method_17_code 2 (some .boolean) ∈ lw_tbl := List.mem_append_right _ (List.mem_append_right _ (List.mem_append_right _ (List.mem_append_right _ (List.mem_append_right _ (List.mem_append_right _ (List.mem_append_left _ (List.mem_of_getElem? (i := 52) rfl)))))))
set_option maxRecDepth 20000 in
theorem cb_160 : Cond.code ⟨"TallySticksModel", "isGrain", "(I)Z"⟩ prog_11_method_18_code 1 (some .boolean) ∈ lw_tbl := List.mem_append_right _ (List.mem_append_right _ (List.mem_append_right _ (List.mem_append_right _ (List.mem_append_right _ (List.mem_append_right _ (List.mem_append_left _ (List.mem_of_getElem? (i := 63) rfl)))))))
set_option maxRecDepth 20000 in
theorem cb_161 : Cond.code ⟨"TallySticksModel", "person", "(I)I"⟩ prog_11_method_19_code 3 (some .int) ∈ lw_tbl := List.mem_append_right _ (List.mem_append_right _ (List.mem_append_right _ (List.mem_append_right _ (List.mem_append_right _ (List.mem_append_right _ (List.mem_append_left _ (List.mem_of_getElem? (i := 35) rfl)))))))
set_option maxRecDepth 20000 in
theorem cb_162 : Cond.code ⟨"TallySticksModel", "netOf", "(I)I"⟩ prog_11_method_20_code 4 (some .int) ∈ lw_tbl := List.mem_append_right _ (List.mem_append_right _ (List.mem_append_right _ (List.mem_append_right _ (List.mem_append_right _ (List.mem_append_right _ (List.mem_append_left _ (List.mem_of_getElem? (i := 48) rfl)))))))
set_option maxRecDepth 20000 in
theorem cb_163 : Cond.code ⟨"TallySticksModel", "manyOf", "(II)I"⟩ prog_11_method_21_code 5 (some .int) ∈ lw_tbl := List.mem_append_right _ (List.mem_append_right _ (List.mem_append_right _ (List.mem_append_right _ (List.mem_append_right _ (List.mem_append_right _ (List.mem_append_left _ (List.mem_of_getElem? (i := 56) rfl)))))))
set_option maxRecDepth 20000 in
theorem cb_164 : Cond.code ⟨"TallySticksModel", "of", "(II)I"⟩ prog_11_method_22_code 3 (some .int) ∈ lw_tbl := List.mem_append_right _ (List.mem_append_right _ (List.mem_append_right _ (List.mem_append_right _ (List.mem_append_right _ (List.mem_append_right _ (List.mem_append_left _ (List.mem_of_getElem? (i := 39) rfl)))))))
set_option maxRecDepth 20000 in
theorem cb_165 : Cond.code ⟨"TallySticksModel", "stick", "(IIIIII)I"⟩ prog_11_method_23_code 8 (some .int) ∈ lw_tbl := List.mem_append_right _ (List.mem_append_right _ (List.mem_append_right _ (List.mem_append_right _ (List.mem_append_right _ (List.mem_append_right _ (List.mem_append_left _ (List.mem_of_getElem? (i := 60) rfl)))))))
set_option maxRecDepth 20000 in
theorem cb_166 : Cond.code ⟨"TallySticksModel", "at", "(II)I"⟩ prog_11_method_24_code 3 (some .int) ∈ lw_tbl := List.mem_append_right _ (List.mem_append_right _ (List.mem_append_right _ (List.mem_append_right _ (List.mem_append_right _ (List.mem_append_right _ (List.mem_append_left _ (List.mem_of_getElem? (i := 67) rfl)))))))
set_option maxRecDepth 20000 in
theorem cb_167 : Cond.code ⟨"TallySticksModel", "canFoil", "(II)Z"⟩ prog_11_method_25_code 3 (some .boolean) ∈ lw_tbl := List.mem_append_right _ (List.mem_append_right _ (List.mem_append_right _ (List.mem_append_right _ (List.mem_append_right _ (List.mem_append_right _ (List.mem_append_left _ (List.mem_of_getElem? (i := 140) rfl)))))))
set_option maxRecDepth 20000 in
theorem cb_168 : Cond.code ⟨"TallySticksModel", "addsFoil", "(II)V"⟩ prog_11_method_26_code 3 none ∈ lw_tbl := List.mem_append_right _ (List.mem_append_right _ (List.mem_append_right _ (List.mem_append_right _ (List.mem_append_right _ (List.mem_append_right _ (List.mem_append_left _ (List.mem_of_getElem? (i := 144) rfl)))))))
set_option maxRecDepth 20000 in
theorem cb_169 : Cond.code ⟨"TallySticksModel", "foil", "(II)I"⟩ prog_11_method_27_code 3 (some .int) ∈ lw_tbl := List.mem_append_right _ (List.mem_append_right _ (List.mem_append_right _ (List.mem_append_right _ (List.mem_append_right _ (List.mem_append_right _ (List.mem_append_left _ (List.mem_of_getElem? (i := 136) rfl)))))))
set_option maxRecDepth 20000 in
theorem cb_170 : Cond.code ⟨"TallySticksModel", "half", "(II)I"⟩ prog_11_method_28_code 3 (some .int) ∈ lw_tbl := List.mem_append_right _ (List.mem_append_right _ (List.mem_append_right _ (List.mem_append_right _ (List.mem_append_right _ (List.mem_append_right _ (List.mem_append_left _ (List.mem_of_getElem? (i := 148) rfl)))))))
set_option maxRecDepth 20000 in
theorem cb_171 : Cond.code ⟨"TallySticksModel", "terms", "(II)I"⟩ prog_11_method_29_code 5 (some .int) ∈ lw_tbl := List.mem_append_right _ (List.mem_append_right _ (List.mem_append_right _ (List.mem_append_right _ (List.mem_append_right _ (List.mem_append_right _ (List.mem_append_left _ (List.mem_of_getElem? (i := 156) rfl)))))))
set_option maxRecDepth 20000 in
theorem cb_172 : Cond.code ⟨"TallySticksModel", "row", "()I"⟩ prog_11_method_30_code 8 (some .int) ∈ lw_tbl := List.mem_append_right _ (List.mem_append_right _ (List.mem_append_right _ (List.mem_append_right _ (List.mem_append_right _ (List.mem_append_right _ (List.mem_append_left _ (List.mem_of_getElem? (i := 160) rfl)))))))
set_option maxRecDepth 20000 in
theorem cb_173 : Cond.code ⟨"TallySticksModel", "chips", "()I"⟩ prog_11_method_31_code 1 (some .int) ∈ lw_tbl := List.mem_append_right _ (List.mem_append_right _ (List.mem_append_right _ (List.mem_append_right _ (List.mem_append_right _ (List.mem_append_right _ (List.mem_append_left _ (List.mem_of_getElem? (i := 164) rfl)))))))
set_option maxRecDepth 20000 in
theorem cb_174 : Cond.code ⟨"TallySticksModel", "feed", "(IIIII)I"⟩ prog_11_method_32_code 7 (some .int) ∈ lw_tbl := List.mem_append_right _ (List.mem_append_right _ (List.mem_append_right _ (List.mem_append_right _ (List.mem_append_right _ (List.mem_append_right _ (List.mem_append_left _ (List.mem_of_getElem? (i := 168) rfl)))))))
set_option maxRecDepth 20000 in
theorem cb_175 : Cond.code ⟨"TallySticksModel", "end", "(I)I"⟩ prog_11_method_33_code 2 (some .int) ∈ lw_tbl := List.mem_append_right _ (List.mem_append_right _ (List.mem_append_right _ (List.mem_append_right _ (List.mem_append_right _ (List.mem_append_right _ (List.mem_append_left _ (List.mem_of_getElem? (i := 172) rfl)))))))
set_option maxRecDepth 20000 in
theorem cb_176 : Cond.code ⟨"TallySticksModel", "isSmall", "(I)Z"⟩ prog_11_method_34_code 1 (some .boolean) ∈ lw_tbl := List.mem_append_right _ (List.mem_append_right _ (List.mem_append_right _ (List.mem_append_right _ (List.mem_append_right _ (List.mem_append_right _ (List.mem_append_left _ (List.mem_of_getElem? (i := 191) rfl)))))))
set_option maxRecDepth 20000 in
theorem cb_177 : Cond.code ⟨"TallySticksModel", "isDigit", "(I)Z"⟩ prog_11_method_35_code 1 (some .boolean) ∈ lw_tbl := List.mem_append_right _ (List.mem_append_right _ (List.mem_append_right _ (List.mem_append_right _ (List.mem_append_right _ (List.mem_append_right _ (List.mem_append_left _ (List.mem_of_getElem? (i := 194) rfl)))))))
set_option maxRecDepth 20000 in
theorem cb_178 : Cond.code ⟨"TallySticksModel", "wordOf", "(II)I"⟩ prog_11_method_36_code 8 (some .int) ∈ lw_tbl := List.mem_append_right _ (List.mem_append_right _ (List.mem_append_right _ (List.mem_append_right _ (List.mem_append_right _ (List.mem_append_right _ (List.mem_append_left _ (List.mem_of_getElem? (i := 198) rfl)))))))
set_option maxRecDepth 20000 in
theorem cb_179 : Cond.code ⟨"TallySticksModel", "splits", "(I)V"⟩ prog_11_method_37_code 6 none ∈ lw_tbl := List.mem_append_right _ (List.mem_append_right _ (List.mem_append_right _ (List.mem_append_right _ (List.mem_append_right _ (List.mem_append_right _ (List.mem_append_left _ (List.mem_of_getElem? (i := 188) rfl)))))))
set_option maxRecDepth 20000 in
theorem cb_180 : Cond.code ⟨"TallySticksModel", "fine", "()Z"⟩ prog_11_method_38_code 1 (some .boolean) ∈ lw_tbl := List.mem_append_right _ (List.mem_append_right _ (List.mem_append_right _ (List.mem_append_right _ (List.mem_append_right _ (List.mem_append_right _ (List.mem_append_left _ (List.mem_of_getElem? (i := 215) rfl)))))))
set_option maxRecDepth 20000 in
theorem cb_181 : Cond.code ⟨"TallySticksModel", "faults", "()V"⟩ prog_11_method_39_code 1 none ∈ lw_tbl := List.mem_append_right _ (List.mem_append_right _ (List.mem_append_right _ (List.mem_append_right _ (List.mem_append_right _ (List.mem_append_right _ (List.mem_append_left _ (List.mem_of_getElem? (i := 231) rfl)))))))
set_option maxRecDepth 20000 in
theorem cb_182 : Cond.code ⟨"TallySticksModel", "takes0", "(I)Z"⟩ prog_11_method_40_code 3 (some .boolean) ∈ lw_tbl := List.mem_append_right _ (List.mem_append_right _ (List.mem_append_right _ (List.mem_append_right _ (List.mem_append_right _ (List.mem_append_right _ (List.mem_append_left _ (List.mem_of_getElem? (i := 211) rfl)))))))
set_option maxRecDepth 20000 in
theorem cb_183 : Cond.code ⟨"TallySticksModel", "must", "(I)V"⟩ prog_11_method_41_code 2 none ∈ lw_tbl := List.mem_append_right _ (List.mem_append_right _ (List.mem_append_right _ (List.mem_append_right _ (List.mem_append_right _ (List.mem_append_right _ (List.mem_append_left _ (List.mem_of_getElem? (i := 235) rfl)))))))
set_option maxRecDepth 20000 in
theorem cb_184 : Cond.code ⟨"TallySticksModel", "leaf", "()V"⟩ prog_11_method_42_code 1 none ∈ lw_tbl := List.mem_append_right _ (List.mem_append_right _ (List.mem_append_right _ (List.mem_append_right _ (List.mem_append_right _ (List.mem_append_right _ (List.mem_append_left _ (List.mem_of_getElem? (i := 239) rfl)))))))
set_option maxRecDepth 20000 in
theorem cb_185 : Cond.code ⟨"TallySticksModel", "sign", "(C)I"⟩ prog_11_method_43_code 1 (some .int) ∈ lw_tbl := List.mem_append_right _ (List.mem_append_right _ (List.mem_append_right _ (List.mem_append_right _ (List.mem_append_right _ (List.mem_append_right _ (List.mem_append_left _ (List.mem_of_getElem? (i := 98) rfl)))))))
set_option maxRecDepth 20000 in
theorem cb_186 : Cond.code ⟨"TallySticksModel", "mustNumber", "(II)V"⟩ prog_11_method_44_code 3 none ∈ lw_tbl := List.mem_append_right _ (List.mem_append_right _ (List.mem_append_right _ (List.mem_append_right _ (List.mem_append_right _ (List.mem_append_right _ (List.mem_append_right _ (List.mem_append_left _ (List.mem_of_getElem? (i := 3) rfl))))))))
set_option maxRecDepth 20000 in
theorem cb_187 : Cond.code ⟨"TallySticksModel", "readClause", "()V"⟩ prog_11_method_45_code 1 none ∈ lw_tbl := List.mem_append_right _ (List.mem_append_right _ (List.mem_append_right _ (List.mem_append_right _ (List.mem_append_right _ (List.mem_append_right _ (List.mem_append_right _ (List.mem_append_left _ (List.mem_of_getElem? (i := 19) rfl))))))))
set_option maxRecDepth 20000 in
theorem cb_188 : Cond.code ⟨"TallySticksModel", "readOrder", "()V"⟩ prog_11_method_46_code 1 none ∈ lw_tbl := List.mem_append_right _ (List.mem_append_right _ (List.mem_append_right _ (List.mem_append_right _ (List.mem_append_right _ (List.mem_append_right _ (List.mem_append_left _ (List.mem_of_getElem? (i := 207) rfl)))))))
set_option maxRecDepth 20000 in
theorem cb_189 : Cond.code ⟨"TallySticksModel", "readOne", "()V"⟩ prog_11_method_47_code 1 none ∈ lw_tbl := List.mem_append_right _ (List.mem_append_right _ (List.mem_append_right _ (List.mem_append_right _ (List.mem_append_right _ (List.mem_append_right _ (List.mem_append_left _ (List.mem_of_getElem? (i := 203) rfl)))))))
set_option maxRecDepth 20000 in
theorem cb_190 : Cond.code ⟨"TallySticksModel", "readTest", "(I)V"⟩ prog_11_method_48_code 2 none ∈ lw_tbl := List.mem_append_right _ (List.mem_append_right _ (List.mem_append_right _ (List.mem_append_right _ (List.mem_append_right _ (List.mem_append_right _ (List.mem_append_right _ (List.mem_append_left _ (List.mem_of_getElem? (i := 7) rfl))))))))
set_option maxRecDepth 20000 in
theorem cb_191 : Cond.code ⟨"TallySticksModel", "readBoth", "(I)V"⟩ prog_11_method_49_code 2 none ∈ lw_tbl := List.mem_append_right _ (List.mem_append_right _ (List.mem_append_right _ (List.mem_append_right _ (List.mem_append_right _ (List.mem_append_right _ (List.mem_append_right _ (List.mem_append_left _ (List.mem_of_getElem? (i := 11) rfl))))))))
set_option maxRecDepth 20000 in
theorem cb_192 : Cond.code ⟨"TallySticksModel", "readPlain", "(I)V"⟩ prog_11_method_50_code 4 none ∈ lw_tbl := List.mem_append_right _ (List.mem_append_right _ (List.mem_append_right _ (List.mem_append_right _ (List.mem_append_right _ (List.mem_append_right _ (List.mem_append_right _ (List.mem_append_left _ (List.mem_of_getElem? (i := 15) rfl))))))))
set_option maxRecDepth 20000 in
theorem cb_193 : Cond.code ⟨"TallySticksModel", "readSum", "(I)V"⟩ prog_11_method_51_code 2 none ∈ lw_tbl := List.mem_append_right _ (List.mem_append_right _ (List.mem_append_right _ (List.mem_append_right _ (List.mem_append_right _ (List.mem_append_right _ (List.mem_append_left _ (List.mem_of_getElem? (i := 219) rfl)))))))
set_option maxRecDepth 20000 in
theorem cb_194 : Cond.code ⟨"TallySticksModel", "readTerm", "(I)V"⟩ prog_11_method_52_code 2 none ∈ lw_tbl := List.mem_append_right _ (List.mem_append_right _ (List.mem_append_right _ (List.mem_append_right _ (List.mem_append_right _ (List.mem_append_right _ (List.mem_append_left _ (List.mem_of_getElem? (i := 223) rfl)))))))
set_option maxRecDepth 20000 in
theorem cb_195 : Cond.code ⟨"TallySticksModel", "readPart", "(I)V"⟩ prog_11_method_53_code 3 none ∈ lw_tbl := List.mem_append_right _ (List.mem_append_right _ (List.mem_append_right _ (List.mem_append_right _ (List.mem_append_right _ (List.mem_append_right _ (List.mem_append_left _ (List.mem_of_getElem? (i := 227) rfl)))))))
set_option maxRecDepth 20000 in
theorem cb_196 : Cond.code ⟨"TallySticksModel", "reads", "()Z"⟩ prog_11_method_54_code 2 (some .boolean) ∈ lw_tbl := List.mem_append_right _ (List.mem_append_right _ (List.mem_append_right _ (List.mem_append_right _ (List.mem_append_right _ (List.mem_append_right _ (List.mem_append_left _ (List.mem_of_getElem? (i := 184) rfl)))))))
set_option maxRecDepth 20000 in
theorem cb_197 : Cond.code ⟨"TallySticksModel", "readsAs", "(Z)Z"⟩ prog_11_method_55_code 2 (some .boolean) ∈ lw_tbl := List.mem_append_right _ (List.mem_append_right _ (List.mem_append_right _ (List.mem_append_right _ (List.mem_append_right _ (List.mem_append_right _ (List.mem_append_left _ (List.mem_of_getElem? (i := 180) rfl)))))))
set_option maxRecDepth 20000 in
theorem cb_198 : Cond.code ⟨"TallySticksModel", "lays", "(I)V"⟩ prog_11_method_56_code 3 none ∈ lw_tbl := List.mem_append_right _ (List.mem_append_right _ (List.mem_append_right _ (List.mem_append_right _ (List.mem_append_right _ (List.mem_append_right _ (List.mem_append_right _ (List.mem_append_left _ (List.mem_of_getElem? (i := 23) rfl))))))))
set_option maxRecDepth 20000 in
theorem cb_199 : Cond.code ⟨"TallySticksModel", "law", "()I"⟩ prog_11_method_57_code 1 (some .int) ∈ lw_tbl := List.mem_append_right _ (List.mem_append_right _ (List.mem_append_right _ (List.mem_append_right _ (List.mem_append_right _ (List.mem_append_right _ (List.mem_append_left _ (List.mem_of_getElem? (i := 176) rfl)))))))
set_option maxRecDepth 20000 in
theorem cb_200 : Cond.code ⟨"TallySticksModel", "fault", "()I"⟩ prog_11_method_58_code 1 (some .int) ∈ lw_tbl := List.mem_append_right _ (List.mem_append_right _ (List.mem_append_right _ (List.mem_append_right _ (List.mem_append_right _ (List.mem_append_right _ (List.mem_append_right _ (List.mem_append_left _ (List.mem_of_getElem? (i := 27) rfl))))))))
set_option maxRecDepth 20000 in
theorem cb_201 : Cond.code ⟨"TallySticksModel", "force", "(I)I"⟩ prog_11_method_59_code 3 (some .int) ∈ lw_tbl := List.mem_append_right _ (List.mem_append_right _ (List.mem_append_right _ (List.mem_append_right _ (List.mem_append_right _ (List.mem_append_right _ (List.mem_append_right _ (List.mem_append_left _ (List.mem_of_getElem? (i := 31) rfl))))))))
set_option maxRecDepth 20000 in
theorem cb_202 : Cond.code ⟨"TallySticksModel", "codeAt", "(I)I"⟩ prog_11_method_60_code 2 (some .int) ∈ lw_tbl := List.mem_append_right _ (List.mem_append_right _ (List.mem_append_right _ (List.mem_append_right _ (List.mem_append_right _ (List.mem_append_right _ (List.mem_append_left _ (List.mem_of_getElem? (i := 83) rfl)))))))
set_option maxRecDepth 20000 in
theorem cb_203 : Cond.code ⟨"TallySticksModel", "passes0", "(I)Z"⟩ prog_11_method_61_code 3 (some .boolean) ∈ lw_tbl := List.mem_append_right _ (List.mem_append_right _ (List.mem_append_right _ (List.mem_append_right _ (List.mem_append_right _ (List.mem_append_right _ (List.mem_append_left _ (List.mem_of_getElem? (i := 102) rfl)))))))
set_option maxRecDepth 20000 in
theorem cb_204 : Cond.code ⟨"TallySticksModel", "bounded", "(JZ)J"⟩ prog_11_method_62_code 4 (some .long) ∈ lw_tbl := List.mem_append_right _ (List.mem_append_right _ (List.mem_append_right _ (List.mem_append_right _ (List.mem_append_right _ (List.mem_append_right _ (List.mem_append_left _ (List.mem_of_getElem? (i := 110) rfl)))))))
set_option maxRecDepth 20000 in
theorem cb_205 : Cond.code ⟨"TallySticksModel", "sumOf", "(Z)J"⟩ prog_11_method_63_code 7 (some .long) ∈ lw_tbl := List.mem_append_right _ (List.mem_append_right _ (List.mem_append_right _ (List.mem_append_right _ (List.mem_append_right _ (List.mem_append_right _ (List.mem_append_left _ (List.mem_of_getElem? (i := 87) rfl)))))))
set_option maxRecDepth 20000 in
theorem cb_206 : Cond.code ⟨"TallySticksModel", "termOf", "(Z)J"⟩ prog_11_method_64_code 7 (some .long) ∈ lw_tbl := List.mem_append_right _ (List.mem_append_right _ (List.mem_append_right _ (List.mem_append_right _ (List.mem_append_right _ (List.mem_append_right _ (List.mem_append_left _ (List.mem_of_getElem? (i := 91) rfl)))))))
set_option maxRecDepth 20000 in
theorem cb_207 : Cond.code ⟨"TallySticksModel", "partOf", "(Z)J"⟩ prog_11_method_65_code 4 (some .long) ∈ lw_tbl := List.mem_append_right _ (List.mem_append_right _ (List.mem_append_right _ (List.mem_append_right _ (List.mem_append_right _ (List.mem_append_right _ (List.mem_append_left _ (List.mem_of_getElem? (i := 95) rfl)))))))
set_option maxRecDepth 20000 in
theorem cb_208 : Cond.code ⟨"TallySticksModel", "orderValue", "(II)I"⟩ prog_11_method_66_code 3 (some .int) ∈ lw_tbl := List.mem_append_right _ (List.mem_append_right _ (List.mem_append_right _ (List.mem_append_right _ (List.mem_append_right _ (List.mem_append_right _ (List.mem_append_left _ (List.mem_of_getElem? (i := 106) rfl)))))))
set_option maxRecDepth 20000 in
theorem cb_209 : Cond.code ⟨"TallySticksModel", "testOf", "(Z)Z"⟩ prog_11_method_67_code 4 (some .boolean) ∈ lw_tbl := List.mem_append_right _ (List.mem_append_right _ (List.mem_append_right _ (List.mem_append_right _ (List.mem_append_right _ (List.mem_append_right _ (List.mem_append_left _ (List.mem_of_getElem? (i := 116) rfl)))))))
set_option maxRecDepth 20000 in
theorem cb_210 : Cond.code ⟨"TallySticksModel", "bothOf", "(Z)Z"⟩ prog_11_method_68_code 4 (some .boolean) ∈ lw_tbl := List.mem_append_right _ (List.mem_append_right _ (List.mem_append_right _ (List.mem_append_right _ (List.mem_append_right _ (List.mem_append_right _ (List.mem_append_left _ (List.mem_of_getElem? (i := 120) rfl)))))))
set_option maxRecDepth 20000 in
theorem cb_211 : Cond.code ⟨"TallySticksModel", "plainOf", "(Z)Z"⟩ prog_11_method_69_code 3 (some .boolean) ∈ lw_tbl := List.mem_append_right _ (List.mem_append_right _ (List.mem_append_right _ (List.mem_append_right _ (List.mem_append_right _ (List.mem_append_right _ (List.mem_append_left _ (List.mem_of_getElem? (i := 124) rfl)))))))
set_option maxRecDepth 20000 in
theorem cb_212 : Cond.code ⟨"TallySticksModel", "positiveOf", "(Z)Z"⟩ prog_11_method_70_code 7 (some .boolean) ∈ lw_tbl := List.mem_append_right _ (List.mem_append_right _ (List.mem_append_right _ (List.mem_append_right _ (List.mem_append_right _ (List.mem_append_right _ (List.mem_append_left _ (List.mem_of_getElem? (i := 128) rfl)))))))
set_option maxRecDepth 20000 in
theorem cb_213 : Cond.code ⟨"TallySticksModel", "tells", "(IIIII)I"⟩ prog_11_method_71_code 13 (some .int) ∈ lw_tbl := List.mem_append_right _ (List.mem_append_right _ (List.mem_append_right _ (List.mem_append_right _ (List.mem_append_right _ (List.mem_append_right _ (List.mem_append_left _ (List.mem_of_getElem? (i := 79) rfl)))))))
set_option maxRecDepth 20000 in
theorem cb_214 : Cond.code ⟨"TallySticksModel", "paysBy", "(I)I"⟩ prog_11_method_72_code 2 (some .int) ∈ lw_tbl := List.mem_append_right _ (List.mem_append_right _ (List.mem_append_right _ (List.mem_append_right _ (List.mem_append_right _ (List.mem_append_right _ (List.mem_append_left _ (List.mem_of_getElem? (i := 75) rfl)))))))
set_option maxRecDepth 20000 in
theorem cb_215 : Cond.code ⟨"TallySticksModel", "wornIn", "(I)I"⟩ prog_11_method_73_code 2 (some .int) ∈ lw_tbl := List.mem_append_right _ (List.mem_append_right _ (List.mem_append_right _ (List.mem_append_right _ (List.mem_append_right _ (List.mem_append_right _ (List.mem_append_left _ (List.mem_of_getElem? (i := 132) rfl)))))))
set_option maxRecDepth 20000 in
theorem cb_216 : Cond.code ⟨"TallySticksModel", "isBarred", "(II)Z"⟩ prog_11_method_74_code 3 (some .boolean) ∈ lw_tbl := List.mem_append_right _ (List.mem_append_right _ (List.mem_append_right _ (List.mem_append_right _ (List.mem_append_right _ (List.mem_append_right _ (List.mem_append_right _ (List.mem_append_left _ (List.mem_of_getElem? (i := 39) rfl))))))))
set_option maxRecDepth 20000 in
theorem cb_217 : Cond.code ⟨"TallySticksModel", "asks", "(II)I"⟩ prog_11_method_75_code 3 (some .int) ∈ lw_tbl := List.mem_append_right _ (List.mem_append_right _ (List.mem_append_right _ (List.mem_append_right _ (List.mem_append_right _ (List.mem_append_right _ (List.mem_append_right _ (List.mem_append_left _ (List.mem_of_getElem? (i := 35) rfl))))))))
set_option maxRecDepth 20000 in
theorem cb_218 : Cond.code ⟨"TallySticksModel", "canGive", "(II)Z"⟩ prog_11_method_76_code 3 (some .boolean) ∈ lw_tbl := List.mem_append_right _ (List.mem_append_right _ (List.mem_append_right _ (List.mem_append_right _ (List.mem_append_right _ (List.mem_append_right _ (List.mem_append_right _ (List.mem_append_left _ (List.mem_of_getElem? (i := 55) rfl))))))))
set_option maxRecDepth 20000 in
theorem cb_219 : Cond.code ⟨"TallySticksModel", "gives", "(II)I"⟩ prog_11_method_77_code 4 (some .int) ∈ lw_tbl := List.mem_append_right _ (List.mem_append_right _ (List.mem_append_right _ (List.mem_append_right _ (List.mem_append_right _ (List.mem_append_right _ (List.mem_append_right _ (List.mem_append_left _ (List.mem_of_getElem? (i := 63) rfl))))))))
set_option maxRecDepth 20000 in
theorem cb_220 : Cond.code ⟨"TallySticksModel", "moves", "(II)V"⟩ prog_11_method_78_code 3 none ∈ lw_tbl := List.mem_append_right _ (List.mem_append_right _ (List.mem_append_right _ (List.mem_append_right _ (List.mem_append_right _ (List.mem_append_right _ (List.mem_append_right _ (List.mem_append_left _ (List.mem_of_getElem? (i := 91) rfl))))))))
set_option maxRecDepth 20000 in
theorem cb_221 : Cond.code ⟨"TallySticksModel", "isDue", "(I)Z"⟩ prog_11_method_79_code 2 (some .boolean) ∈ lw_tbl := List.mem_append_right _ (List.mem_append_right _ (List.mem_append_right _ (List.mem_append_right _ (List.mem_append_right _ (List.mem_append_right _ (List.mem_append_right _ (List.mem_append_left _ (List.mem_of_getElem? (i := 83) rfl))))))))
set_option maxRecDepth 20000 in
theorem cb_222 : Cond.code ⟨"TallySticksModel", "canCall", "(I)Z"⟩ prog_11_method_80_code 2 (some .boolean) ∈ lw_tbl := List.mem_append_right _ (List.mem_append_right _ (List.mem_append_right _ (List.mem_append_right _ (List.mem_append_right _ (List.mem_append_right _ (List.mem_append_right _ (List.mem_append_left _ (List.mem_of_getElem? (i := 79) rfl))))))))
set_option maxRecDepth 20000 in
theorem cb_223 : Cond.code ⟨"TallySticksModel", "calls0", "(I)I"⟩ prog_11_method_81_code 3 (some .int) ∈ lw_tbl := List.mem_append_right _ (List.mem_append_right _ (List.mem_append_right _ (List.mem_append_right _ (List.mem_append_right _ (List.mem_append_right _ (List.mem_append_right _ (List.mem_append_left _ (List.mem_of_getElem? (i := 87) rfl))))))))
set_option maxRecDepth 20000 in
theorem cb_224 : Cond.code ⟨"TallySticksModel", "keeps", "(I)V"⟩ prog_11_method_82_code 4 none ∈ lw_tbl := List.mem_append_right _ (List.mem_append_right _ (List.mem_append_right _ (List.mem_append_right _ (List.mem_append_right _ (List.mem_append_right _ (List.mem_append_right _ (List.mem_append_left _ (List.mem_of_getElem? (i := 59) rfl))))))))
set_option maxRecDepth 20000 in
theorem cb_225 : Cond.code ⟨"TallySticksModel", "undo", "()I"⟩ prog_11_method_83_code 3 (some .int) ∈ lw_tbl := List.mem_append_right _ (List.mem_append_right _ (List.mem_append_right _ (List.mem_append_right _ (List.mem_append_right _ (List.mem_append_right _ (List.mem_append_right _ (List.mem_append_left _ (List.mem_of_getElem? (i := 43) rfl))))))))
set_option maxRecDepth 20000 in
theorem cb_226 : Cond.code ⟨"TallySticksModel", "goodOr", "(I)I"⟩ prog_11_method_84_code 2 (some .int) ∈ lw_tbl := List.mem_append_right _ (List.mem_append_right _ (List.mem_append_right _ (List.mem_append_right _ (List.mem_append_right _ (List.mem_append_right _ (List.mem_append_right _ (List.mem_append_left _ (List.mem_of_getElem? (i := 67) rfl))))))))
set_option maxRecDepth 20000 in
theorem cb_227 : Cond.code ⟨"TallySticksModel", "givesKept", "(II)I"⟩ prog_11_method_85_code 3 (some .int) ∈ lw_tbl := List.mem_append_right _ (List.mem_append_right _ (List.mem_append_right _ (List.mem_append_right _ (List.mem_append_right _ (List.mem_append_right _ (List.mem_append_right _ (List.mem_append_left _ (List.mem_of_getElem? (i := 51) rfl))))))))
set_option maxRecDepth 20000 in
theorem cb_228 : Cond.code ⟨"TallySticksModel", "callsKept", "(I)I"⟩ prog_11_method_86_code 2 (some .int) ∈ lw_tbl := List.mem_append_right _ (List.mem_append_right _ (List.mem_append_right _ (List.mem_append_right _ (List.mem_append_right _ (List.mem_append_right _ (List.mem_append_right _ (List.mem_append_left _ (List.mem_of_getElem? (i := 75) rfl))))))))
set_option maxRecDepth 20000 in
theorem cb_229 : Cond.code ⟨"TallySticksModel", "shavesKept", "(II)I"⟩ prog_11_method_87_code 3 (some .int) ∈ lw_tbl := List.mem_append_right _ (List.mem_append_right _ (List.mem_append_right _ (List.mem_append_right _ (List.mem_append_right _ (List.mem_append_right _ (List.mem_append_right _ (List.mem_append_left _ (List.mem_of_getElem? (i := 102) rfl))))))))
set_option maxRecDepth 20000 in
theorem cb_230 : Cond.code ⟨"TallySticksModel", "passesKept", "()I"⟩ prog_11_method_88_code 1 (some .int) ∈ lw_tbl := List.mem_append_right _ (List.mem_append_right _ (List.mem_append_right _ (List.mem_append_right _ (List.mem_append_right _ (List.mem_append_right _ (List.mem_append_right _ (List.mem_append_left _ (List.mem_of_getElem? (i := 110) rfl))))))))
set_option maxRecDepth 20000 in
theorem cb_231 : Cond.code ⟨"TallySticksModel", "give", "(II)I"⟩ prog_11_method_89_code 3 (some .int) ∈ lw_tbl := List.mem_append_right _ (List.mem_append_right _ (List.mem_append_right _ (List.mem_append_right _ (List.mem_append_right _ (List.mem_append_right _ (List.mem_append_right _ (List.mem_append_left _ (List.mem_of_getElem? (i := 47) rfl))))))))
set_option maxRecDepth 20000 in
theorem cb_232 : Cond.code ⟨"TallySticksModel", "call", "(I)I"⟩ prog_11_method_90_code 2 (some .int) ∈ lw_tbl := List.mem_append_right _ (List.mem_append_right _ (List.mem_append_right _ (List.mem_append_right _ (List.mem_append_right _ (List.mem_append_right _ (List.mem_append_right _ (List.mem_append_left _ (List.mem_of_getElem? (i := 71) rfl))))))))
set_option maxRecDepth 20000 in
theorem cb_233 : Cond.code ⟨"TallySticksModel", "shave", "(II)I"⟩ prog_11_method_91_code 3 (some .int) ∈ lw_tbl := List.mem_append_right _ (List.mem_append_right _ (List.mem_append_right _ (List.mem_append_right _ (List.mem_append_right _ (List.mem_append_right _ (List.mem_append_right _ (List.mem_append_left _ (List.mem_of_getElem? (i := 98) rfl))))))))
set_option maxRecDepth 20000 in
theorem cb_234 : Cond.code ⟨"TallySticksModel", "pass", "()I"⟩ prog_11_method_92_code 1 (some .int) ∈ lw_tbl := List.mem_append_right _ (List.mem_append_right _ (List.mem_append_right _ (List.mem_append_right _ (List.mem_append_right _ (List.mem_append_right _ (List.mem_append_right _ (List.mem_append_left _ (List.mem_of_getElem? (i := 106) rfl))))))))
set_option maxRecDepth 20000 in
theorem cb_235 : Cond.code ⟨"TallySticksModel", "unlike", "(II)I"⟩ prog_11_method_93_code 3 (some .int) ∈ lw_tbl := List.mem_append_right _ (List.mem_append_right _ (List.mem_append_right _ (List.mem_append_right _ (List.mem_append_right _ (List.mem_append_right _ (List.mem_append_right _ (List.mem_append_left _ (List.mem_of_getElem? (i := 118) rfl))))))))
set_option maxRecDepth 20000 in
theorem cb_236 : Cond.code ⟨"TallySticksModel", "doesFit", "(II)Z"⟩ prog_11_method_94_code 3 (some .boolean) ∈ lw_tbl := List.mem_append_right _ (List.mem_append_right _ (List.mem_append_right _ (List.mem_append_right _ (List.mem_append_right _ (List.mem_append_right _ (List.mem_append_right _ (List.mem_append_left _ (List.mem_of_getElem? (i := 125) rfl))))))))
set_option maxRecDepth 20000 in
theorem cb_237 : Cond.code ⟨"TallySticksModel", "fit", "(III)I"⟩ prog_11_method_95_code 4 (some .int) ∈ lw_tbl := List.mem_append_right _ (List.mem_append_right _ (List.mem_append_right _ (List.mem_append_right _ (List.mem_append_right _ (List.mem_append_right _ (List.mem_append_right _ (List.mem_append_left _ (List.mem_of_getElem? (i := 114) rfl))))))))
set_option maxRecDepth 20000 in
theorem cb_238 : Cond.code ⟨"TallySticksModel", "laysFits", "()V"⟩ prog_11_method_96_code 3 none ∈ lw_tbl := List.mem_append_right _ (List.mem_append_right _ (List.mem_append_right _ (List.mem_append_right _ (List.mem_append_right _ (List.mem_append_right _ (List.mem_append_right _ (List.mem_append_left _ (List.mem_of_getElem? (i := 137) rfl))))))))
set_option maxRecDepth 20000 in
theorem cb_239 : Cond.code ⟨"TallySticksModel", "mostAt", "(II)I"⟩ prog_11_method_97_code 3 (some .int) ∈ lw_tbl := List.mem_append_right _ (List.mem_append_right _ (List.mem_append_right _ (List.mem_append_right _ (List.mem_append_right _ (List.mem_append_right _ (List.mem_append_right _ (List.mem_append_left _ (List.mem_of_getElem? (i := 141) rfl))))))))
set_option maxRecDepth 20000 in
theorem cb_240 : Cond.code ⟨"TallySticksModel", "laysMost", "()V"⟩ prog_11_method_98_code 6 none ∈ lw_tbl := List.mem_append_right _ (List.mem_append_right _ (List.mem_append_right _ (List.mem_append_right _ (List.mem_append_right _ (List.mem_append_right _ (List.mem_append_right _ (List.mem_append_left _ (List.mem_of_getElem? (i := 133) rfl))))))))
set_option maxRecDepth 20000 in
theorem cb_241 : Cond.code ⟨"TallySticksModel", "firstFoil", "(II)I"⟩ prog_11_method_99_code 4 (some .int) ∈ lw_tbl := List.mem_append_right _ (List.mem_append_right _ (List.mem_append_right _ (List.mem_append_right _ (List.mem_append_right _ (List.mem_append_right _ (List.mem_append_right _ (List.mem_append_left _ (List.mem_of_getElem? (i := 151) rfl))))))))
set_option maxRecDepth 20000 in
theorem cb_242 : Cond.code ⟨"TallySticksModel", "match", "(I)I"⟩ prog_11_method_100_code 5 (some .int) ∈ lw_tbl := List.mem_append_right _ (List.mem_append_right _ (List.mem_append_right _ (List.mem_append_right _ (List.mem_append_right _ (List.mem_append_right _ (List.mem_append_right _ (List.mem_append_left _ (List.mem_of_getElem? (i := 129) rfl))))))))
set_option maxRecDepth 20000 in
theorem cb_243 : Cond.code ⟨"TallySticksModel", "odd", "()I"⟩ prog_11_method_101_code 5 (some .int) ∈ lw_tbl := List.mem_append_right _ (List.mem_append_right _ (List.mem_append_right _ (List.mem_append_right _ (List.mem_append_right _ (List.mem_append_right _ (List.mem_append_right _ (List.mem_append_left _ (List.mem_of_getElem? (i := 155) rfl))))))))
set_option maxRecDepth 20000 in
theorem cb_244 : Cond.code ⟨"TallySticksModel", "tellsApart", "(I)Z"⟩ prog_11_method_102_code 5 (some .boolean) ∈ lw_tbl := List.mem_append_right _ (List.mem_append_right _ (List.mem_append_right _ (List.mem_append_right _ (List.mem_append_right _ (List.mem_append_right _ (List.mem_append_right _ (List.mem_append_left _ (List.mem_of_getElem? (i := 163) rfl))))))))
set_option maxRecDepth 20000 in
theorem cb_245 : Cond.code ⟨"TallySticksModel", "apart", "(I)I"⟩ prog_11_method_103_code 4 (some .int) ∈ lw_tbl := List.mem_append_right _ (List.mem_append_right _ (List.mem_append_right _ (List.mem_append_right _ (List.mem_append_right _ (List.mem_append_right _ (List.mem_append_right _ (List.mem_append_left _ (List.mem_of_getElem? (i := 159) rfl))))))))
set_option maxRecDepth 20000 in
theorem cb_246 : Cond.code ⟨"TallySticksModel", "notchesAbove", "(II)I"⟩ prog_11_method_104_code 5 (some .int) ∈ lw_tbl := List.mem_append_right _ (List.mem_append_right _ (List.mem_append_right _ (List.mem_append_right _ (List.mem_append_right _ (List.mem_append_right _ (List.mem_append_right _ (List.mem_append_left _ (List.mem_of_getElem? (i := 170) rfl))))))))
set_option maxRecDepth 20000 in
theorem cb_247 : Cond.code ⟨"TallySticksModel", "told", "(III)I"⟩ prog_11_method_105_code 9 (some .int) ∈ lw_tbl := List.mem_append_right _ (List.mem_append_right _ (List.mem_append_right _ (List.mem_append_right _ (List.mem_append_right _ (List.mem_append_right _ (List.mem_append_right _ (List.mem_append_left _ (List.mem_of_getElem? (i := 167) rfl))))))))
set_option maxRecDepth 20000 in
theorem cb_248 : Cond.code ⟨"TallySticksModel", "areEven", "(I)Z"⟩ prog_11_method_106_code 4 (some .boolean) ∈ lw_tbl := List.mem_append_right _ (List.mem_append_right _ (List.mem_append_right _ (List.mem_append_right _ (List.mem_append_right _ (List.mem_append_right _ (List.mem_append_right _ (List.mem_append_left _ (List.mem_of_getElem? (i := 186) rfl))))))))
set_option maxRecDepth 20000 in
theorem cb_249 : Cond.code ⟨"TallySticksModel", "triesGroup", "(II)V"⟩ prog_11_method_107_code 4 none ∈ lw_tbl := List.mem_append_right _ (List.mem_append_right _ (List.mem_append_right _ (List.mem_append_right _ (List.mem_append_right _ (List.mem_append_right _ (List.mem_append_right _ (List.mem_append_left _ (List.mem_of_getElem? (i := 182) rfl))))))))
set_option maxRecDepth 20000 in
theorem cb_250 : Cond.code ⟨"TallySticksModel", "laysNets", "()I"⟩ prog_11_method_108_code 3 (some .int) ∈ lw_tbl := List.mem_append_right _ (List.mem_append_right _ (List.mem_append_right _ (List.mem_append_right _ (List.mem_append_right _ (List.mem_append_right _ (List.mem_append_right _ (List.mem_append_left _ (List.mem_of_getElem? (i := 178) rfl))))))))
set_option maxRecDepth 20000 in
theorem cb_251 : Cond.code ⟨"TallySticksModel", "settle", "(I)I"⟩ prog_11_method_109_code 3 (some .int) ∈ lw_tbl := List.mem_append_right _ (List.mem_append_right _ (List.mem_append_right _ (List.mem_append_right _ (List.mem_append_right _ (List.mem_append_right _ (List.mem_append_right _ (List.mem_append_left _ (List.mem_of_getElem? (i := 174) rfl))))))))
set_option maxRecDepth 20000 in
theorem cb_252 : Cond.code ⟨"TallySticksModel", "comesRound", "(III)Z"⟩ prog_11_method_110_code 6 (some .boolean) ∈ lw_tbl := List.mem_append_right _ (List.mem_append_right _ (List.mem_append_right _ (List.mem_append_right _ (List.mem_append_right _ (List.mem_append_right _ (List.mem_append_right _ (List.mem_append_left _ (List.mem_of_getElem? (i := 198) rfl))))))))
set_option maxRecDepth 20000 in
theorem cb_253 : Cond.code ⟨"TallySticksModel", "hasRing", "(I)Z"⟩ prog_11_method_111_code 3 (some .boolean) ∈ lw_tbl := List.mem_append_right _ (List.mem_append_right _ (List.mem_append_right _ (List.mem_append_right _ (List.mem_append_right _ (List.mem_append_right _ (List.mem_append_right _ (List.mem_append_left _ (List.mem_of_getElem? (i := 194) rfl))))))))
set_option maxRecDepth 20000 in
theorem cb_254 : Cond.code ⟨"TallySticksModel", "ring", "(I)I"⟩ prog_11_method_112_code 3 (some .int) ∈ lw_tbl := List.mem_append_right _ (List.mem_append_right _ (List.mem_append_right _ (List.mem_append_right _ (List.mem_append_right _ (List.mem_append_right _ (List.mem_append_right _ (List.mem_append_left _ (List.mem_of_getElem? (i := 190) rfl))))))))
set_option maxRecDepth 20000 in
theorem cb_255 : Cond.code ⟨"TallySticksModel", "chain", "(II)I"⟩ prog_11_method_113_code 7 (some .int) ∈ lw_tbl := List.mem_append_right _ (List.mem_append_right _ (List.mem_append_right _ (List.mem_append_right _ (List.mem_append_right _ (List.mem_append_right _ (List.mem_append_right _ (List.mem_append_left _ (List.mem_of_getElem? (i := 202) rfl))))))))
set_option maxRecDepth 20000 in
theorem cb_256 : Cond.code ⟨"TallySticksModel", "triesCall", "(I)V"⟩ prog_11_method_114_code 3 none ∈ lw_tbl := List.mem_append_right _ (List.mem_append_right _ (List.mem_append_right _ (List.mem_append_right _ (List.mem_append_right _ (List.mem_append_right _ (List.mem_append_right _ (List.mem_append_left _ (List.mem_of_getElem? (i := 214) rfl))))))))
set_option maxRecDepth 20000 in
theorem cb_257 : Cond.code ⟨"TallySticksModel", "manyDue", "()I"⟩ prog_11_method_115_code 3 (some .int) ∈ lw_tbl := List.mem_append_right _ (List.mem_append_right _ (List.mem_append_right _ (List.mem_append_right _ (List.mem_append_right _ (List.mem_append_right _ (List.mem_append_right _ (List.mem_append_left _ (List.mem_of_getElem? (i := 210) rfl))))))))
set_option maxRecDepth 20000 in
theorem cb_258 : Cond.code ⟨"TallySticksModel", "calls", "(I)I"⟩ prog_11_method_116_code 2 (some .int) ∈ lw_tbl := List.mem_append_right _ (List.mem_append_right _ (List.mem_append_right _ (List.mem_append_right _ (List.mem_append_right _ (List.mem_append_right _ (List.mem_append_right _ (List.mem_append_left _ (List.mem_of_getElem? (i := 206) rfl))))))))
set_option maxRecDepth 20000 in
theorem cb_259 : Cond.code ⟨"TallySticksModel", "stopped", "()I"⟩ prog_11_method_117_code 1 (some .int) ∈ lw_tbl := List.mem_append_right _ (List.mem_append_right _ (List.mem_append_right _ (List.mem_append_right _ (List.mem_append_right _ (List.mem_append_right _ (List.mem_append_right _ (List.mem_append_left _ (List.mem_of_getElem? (i := 226) rfl))))))))
set_option maxRecDepth 20000 in
theorem cb_260 : Cond.code ⟨"TallySticksModel", "orders", "()I"⟩ prog_11_method_118_code 5 (some .int) ∈ lw_tbl := List.mem_append_right _ (List.mem_append_right _ (List.mem_append_right _ (List.mem_append_right _ (List.mem_append_right _ (List.mem_append_right _ (List.mem_append_right _ (List.mem_append_left _ (List.mem_of_getElem? (i := 230) rfl))))))))
set_option maxRecDepth 20000 in
theorem cb_261 : Cond.code ⟨"TallySticksModel", "goesAlong", "(IZ)V"⟩ prog_11_method_119_code 5 none ∈ lw_tbl := List.mem_append_right _ (List.mem_append_right _ (List.mem_append_right _ (List.mem_append_right _ (List.mem_append_right _ (List.mem_append_right _ (List.mem_append_right _ (List.mem_append_left _ (List.mem_of_getElem? (i := 238) rfl))))))))
set_option maxRecDepth 20000 in
theorem cb_262 : Cond.code ⟨"TallySticksModel", "small", "(J)I"⟩ prog_11_method_120_code 2 (some .int) ∈ lw_tbl := List.mem_append_right _ (List.mem_append_right _ (List.mem_append_right _ (List.mem_append_right _ (List.mem_append_right _ (List.mem_append_right _ (List.mem_append_right _ (List.mem_append_right _ (List.mem_of_getElem? (i := 5) rfl))))))))
set_option maxRecDepth 20000 in
theorem cb_263 : Cond.code ⟨"TallySticksModel", "obeys", "()I"⟩ prog_11_method_121_code 4 (some .int) ∈ lw_tbl := List.mem_append_right _ (List.mem_append_right _ (List.mem_append_right _ (List.mem_append_right _ (List.mem_append_right _ (List.mem_append_right _ (List.mem_append_right _ (List.mem_append_right _ (List.mem_of_getElem? (i := 2) rfl))))))))
set_option maxRecDepth 20000 in
theorem cb_264 : Cond.code ⟨"TallySticksModel", "runs", "(I)Z"⟩ prog_11_method_122_code 5 (some .boolean) ∈ lw_tbl := List.mem_append_right _ (List.mem_append_right _ (List.mem_append_right _ (List.mem_append_right _ (List.mem_append_right _ (List.mem_append_right _ (List.mem_append_right _ (List.mem_append_left _ (List.mem_of_getElem? (i := 234) rfl))))))))
set_option maxRecDepth 20000 in
theorem cb_265 : Cond.code ⟨"TallySticksModel", "draws", "(I)I"⟩ prog_11_method_123_code 2 (some .int) ∈ lw_tbl := List.mem_append_right _ (List.mem_append_right _ (List.mem_append_right _ (List.mem_append_right _ (List.mem_append_right _ (List.mem_append_right _ (List.mem_append_right _ (List.mem_append_right _ (List.mem_of_getElem? (i := 14) rfl))))))))
set_option maxRecDepth 20000 in
theorem cb_266 : Cond.code ⟨"TallySticksModel", "callsOrGives", "(II)Z"⟩ prog_11_method_124_code 3 (some .boolean) ∈ lw_tbl := List.mem_append_right _ (List.mem_append_right _ (List.mem_append_right _ (List.mem_append_right _ (List.mem_append_right _ (List.mem_append_right _ (List.mem_append_right _ (List.mem_append_right _ (List.mem_of_getElem? (i := 21) rfl))))))))
set_option maxRecDepth 20000 in
theorem cb_267 : Cond.code ⟨"TallySticksModel", "laysDrawn", "()V"⟩ prog_11_method_125_code 2 none ∈ lw_tbl := List.mem_append_right _ (List.mem_append_right _ (List.mem_append_right _ (List.mem_append_right _ (List.mem_append_right _ (List.mem_append_right _ (List.mem_append_right _ (List.mem_append_right _ (List.mem_of_getElem? (i := 25) rfl))))))))
set_option maxRecDepth 20000 in
theorem cb_268 : Cond.code ⟨"TallySticksModel", "years", "(II)I"⟩ prog_11_method_126_code 7 (some .int) ∈ lw_tbl := List.mem_append_right _ (List.mem_append_right _ (List.mem_append_right _ (List.mem_append_right _ (List.mem_append_right _ (List.mem_append_right _ (List.mem_append_right _ (List.mem_append_right _ (List.mem_of_getElem? (i := 10) rfl))))))))
set_option maxRecDepth 20000 in
theorem cb_269 : Cond.code ⟨"TallySticksModel", "drawn", "(II)I"⟩ prog_11_method_127_code 3 (some .int) ∈ lw_tbl := List.mem_append_right _ (List.mem_append_right _ (List.mem_append_right _ (List.mem_append_right _ (List.mem_append_right _ (List.mem_append_right _ (List.mem_append_right _ (List.mem_append_right _ (List.mem_of_getElem? (i := 29) rfl))))))))
set_option maxRecDepth 20000 in
theorem cb_270 : Cond.code ⟨"TallySticksModel", "manyPaid", "()I"⟩ prog_11_method_128_code 3 (some .int) ∈ lw_tbl := List.mem_append_right _ (List.mem_append_right _ (List.mem_append_right _ (List.mem_append_right _ (List.mem_append_right _ (List.mem_append_right _ (List.mem_append_right _ (List.mem_append_right _ (List.mem_of_getElem? (i := 37) rfl))))))))
set_option maxRecDepth 20000 in
theorem cb_271 : Cond.code ⟨"TallySticksModel", "count", "(I)I"⟩ prog_11_method_129_code 2 (some .int) ∈ lw_tbl := List.mem_append_right _ (List.mem_append_right _ (List.mem_append_right _ (List.mem_append_right _ (List.mem_append_right _ (List.mem_append_right _ (List.mem_append_right _ (List.mem_append_right _ (List.mem_of_getElem? (i := 33) rfl))))))))
set_option maxRecDepth 20000 in
theorem cb_272 : Cond.code ⟨"TallySticksModel", "status", "()I"⟩ prog_11_method_130_code 1 (some .int) ∈ lw_tbl := List.mem_append_right _ (List.mem_append_right _ (List.mem_append_right _ (List.mem_append_right _ (List.mem_append_right _ (List.mem_append_right _ (List.mem_append_right _ (List.mem_append_right _ (List.mem_of_getElem? (i := 41) rfl))))))))
set_option maxRecDepth 20000 in
theorem cb_273 : Cond.code ⟨"java/lang/Integer", "bitCount", "(I)I"⟩ prog_12_method_49_code 1 (some .int) ∈ lw_tbl := List.mem_append_right _ (List.mem_append_right _ (List.mem_append_right _ (List.mem_append_right _ (List.mem_append_left _ (List.mem_of_getElem? (i := 156) rfl)))))
set_option maxRecDepth 20000 in
theorem cb_274 : Cond.code ⟨"java/lang/Math", "max", "(II)I"⟩ prog_13_method_65_code 2 (some .int) ∈ lw_tbl := List.mem_append_right _ (List.mem_append_left _ (List.mem_of_getElem? (i := 163) rfl))
set_option maxRecDepth 20000 in
theorem cb_275 : Cond.code ⟨"java/lang/Math", "min", "(II)I"⟩ prog_13_method_69_code 2 (some .int) ∈ lw_tbl := List.mem_append_right _ (List.mem_append_right _ (List.mem_append_left _ (List.mem_of_getElem? (i := 222) rfl)))
def CB_0 : List Cond := [.code ⟨"TallySticks$CallingIn", "<init>", "()V"⟩ prog_2_method_1_code 1 none, .code ⟨"TallySticks$CallingIn", "longestRow", "(LTallySticks$Chest;LTallySticks$Rules;)I"⟩ prog_2_method_2_code 4 (some .int), .code ⟨"TallySticks$CallingIn", "tryBehind", "(LTallySticks$Chest;LTallySticks$Rules;I)V"⟩ prog_2_method_3_code 10 none, .code ⟨"TallySticks$Chest", "<init>", "()V"⟩ prog_3_method_1_code 1 none, .code ⟨"TallySticks$Chest", "copyFrom", "(LTallySticks$Chest;)V"⟩ prog_3_method_2_code 3 none, .code ⟨"TallySticks$Chest", "hasPerson", "(I)Z"⟩ prog_3_method_3_code 2 (some .boolean), .code ⟨"TallySticks$Chest", "hasStick", "(I)Z"⟩ prog_3_method_4_code 2 (some .boolean), .code ⟨"TallySticks$Chest", "hasFoil", "(I)Z"⟩ prog_3_method_5_code 2 (some .boolean), .code ⟨"TallySticks$Chest", "addPerson", "(I)I"⟩ prog_3_method_6_code 2 (some .int), .code ⟨"TallySticks$Chest", "addStick", "(IIIIII)I"⟩ prog_3_method_7_code 7 (some .int), .code ⟨"TallySticks$Chest", "addFoil", "(II)I"⟩ prog_3_method_8_code 3 (some .int), .code ⟨"TallySticks$Chest", "addLaw", "(LTallySticks$Program;)I"⟩ prog_3_method_9_code 2 (some .int), .code ⟨"TallySticks$Chest", "lawInForce", "()LTallySticks$Program;"⟩ prog_3_method_10_code 1 (some (.object "TallySticks$Program")), .code ⟨"TallySticks$Chest", "isOpen", "(I)Z"⟩ prog_3_method_11_code 2 (some .boolean), .code ⟨"TallySticks$Chest", "isCallable", "(I)Z"⟩ prog_3_method_12_code 2 (some .boolean), .code ⟨"TallySticks$Chest", "netOf", "(I)I"⟩ prog_3_method_13_code 4 (some .int), .code ⟨"TallySticks$Chest", "openSticks", "([II)I"⟩ prog_3_method_14_code 5 (some .int), .code ⟨"TallySticks$Chest", "paidSticks", "()I"⟩ prog_3_method_15_code 3 (some .int), .code ⟨"TallySticks$Chest", "fits", "(III)Z"⟩ prog_3_method_16_code 4 (some .boolean), .code ⟨"TallySticks$Chest", "payOver", "(II)Z"⟩ prog_3_method_17_code 5 (some .boolean), .code ⟨"TallySticks$Debts", "<init>", "()V"⟩ prog_4_method_1_code 1 none, .code ⟨"TallySticks$Debts", "settleAll", "(LTallySticks$Chest;)I"⟩ prog_4_method_2_code 4 (some .int), .code ⟨"TallySticks$Debts", "partFrom", "(III)V"⟩ prog_4_method_3_code 5 none, .code ⟨"TallySticks$Debts", "keepParting", "(II)V"⟩ prog_4_method_4_code 4 none, .code ⟨"TallySticks$Debts", "shortestRing", "(LTallySticks$Chest;)I"⟩ prog_4_method_5_code 4 (some .int)]
theorem cbs_0 : ∀ w ∈ CB_0, w ∈ lw_tbl := List.forall_mem_cons.mpr ⟨cb_0, List.forall_mem_cons.mpr ⟨cb_1, List.forall_mem_cons.mpr ⟨cb_2, List.forall_mem_cons.mpr ⟨cb_3, List.forall_mem_cons.mpr ⟨cb_4, List.forall_mem_cons.mpr ⟨cb_5, List.forall_mem_cons.mpr ⟨cb_6, List.forall_mem_cons.mpr ⟨cb_7, List.forall_mem_cons.mpr ⟨cb_8, List.forall_mem_cons.mpr ⟨cb_9, List.forall_mem_cons.mpr ⟨cb_10, List.forall_mem_cons.mpr ⟨cb_11, List.forall_mem_cons.mpr ⟨cb_12, List.forall_mem_cons.mpr ⟨cb_13, List.forall_mem_cons.mpr ⟨cb_14, List.forall_mem_cons.mpr ⟨cb_15, List.forall_mem_cons.mpr ⟨cb_16, List.forall_mem_cons.mpr ⟨cb_17, List.forall_mem_cons.mpr ⟨cb_18, List.forall_mem_cons.mpr ⟨cb_19, List.forall_mem_cons.mpr ⟨cb_20, List.forall_mem_cons.mpr ⟨cb_21, List.forall_mem_cons.mpr ⟨cb_22, List.forall_mem_cons.mpr ⟨cb_23, List.forall_mem_cons.mpr ⟨cb_24, fun _ h => absurd h List.not_mem_nil⟩⟩⟩⟩⟩⟩⟩⟩⟩⟩⟩⟩⟩⟩⟩⟩⟩⟩⟩⟩⟩⟩⟩⟩⟩
def CB_1 : List Cond := [.code ⟨"TallySticks$Debts", "closesRing", "(LTallySticks$Chest;III)Z"⟩ prog_4_method_6_code 7 (some .boolean), .code ⟨"TallySticks$Debts", "shortestChain", "(LTallySticks$Chest;II)I"⟩ prog_4_method_7_code 8 (some .int), .code ⟨"TallySticks$Deeds", "<init>", "()V"⟩ prog_5_method_1_code 1 none, .code ⟨"TallySticks$Deeds", "forget", "()V"⟩ prog_5_method_2_code 1 none, .code ⟨"TallySticks$Deeds", "copyFrom", "(LTallySticks$Deeds;)V"⟩ prog_5_method_3_code 2 none, .code ⟨"TallySticks$Deeds", "prepare", "(ILTallySticks$Chest;I)V"⟩ prog_5_method_4_code 6 none, .code ⟨"TallySticks$Deeds", "keep", "()V"⟩ prog_5_method_5_code 1 none, .code ⟨"TallySticks$Deeds", "takeBack", "(LTallySticks$Chest;)I"⟩ prog_5_method_6_code 6 (some .int), .code ⟨"TallySticks$Halves", "<init>", "()V"⟩ prog_6_method_1_code 1 none, .code ⟨"TallySticks$Halves", "seeFitting", "(LTallySticks$Chest;LTallySticks$Rules;)V"⟩ prog_6_method_2_code 6 none, .code ⟨"TallySticks$Halves", "oddFoils", "(LTallySticks$Chest;LTallySticks$Rules;)I"⟩ prog_6_method_3_code 5 (some .int), .code ⟨"TallySticks$Halves", "matchMost", "(LTallySticks$Chest;LTallySticks$Rules;)I"⟩ prog_6_method_4_code 9 (some .int), .code ⟨"TallySticks$Halves", "matchFrom", "(III)I"⟩ prog_6_method_5_code 6 (some .int), .code ⟨"TallySticks$Halves", "findFoil", "(II)Z"⟩ prog_6_method_6_code 5 (some .boolean), .code ⟨"TallySticks$Halves", "fewestFibres", "(LTallySticks$Chest;)I"⟩ prog_6_method_7_code 6 (some .int), .code ⟨"TallySticks$Halves", "tellApart", "(II)Z"⟩ prog_6_method_8_code 4 (some .boolean), .code ⟨"TallySticks$Halves", "toldCount", "(II)I"⟩ prog_6_method_9_code 5 (some .int), .code ⟨"TallySticks$Halves", "toldMost", "(II)I"⟩ prog_6_method_10_code 4 (some .int), .code ⟨"TallySticks$Halves", "canHaveTold", "(III)Z"⟩ prog_6_method_11_code 6 (some .boolean), .code ⟨"TallySticks$Program", "<init>", "(II)V"⟩ prog_7_method_1_code 3 none, .code ⟨"TallySticks$Program", "trimmed", "()LTallySticks$Program;"⟩ prog_7_method_2_code 2 (some (.object "TallySticks$Program")), .code ⟨"TallySticks$Program", "headOf", "(II)I"⟩ prog_7_method_3_code 4 (some .int), .code ⟨"TallySticks$Program", "clear", "()V"⟩ prog_7_method_4_code 1 none, .code ⟨"TallySticks$Program", "openClause", "(I)V"⟩ prog_7_method_5_code 2 none, .code ⟨"TallySticks$Program", "markFrom", "(I)V"⟩ prog_7_method_6_code 3 none]
theorem cbs_1 : ∀ w ∈ CB_1, w ∈ lw_tbl := List.forall_mem_cons.mpr ⟨cb_25, List.forall_mem_cons.mpr ⟨cb_26, List.forall_mem_cons.mpr ⟨cb_27, List.forall_mem_cons.mpr ⟨cb_28, List.forall_mem_cons.mpr ⟨cb_29, List.forall_mem_cons.mpr ⟨cb_30, List.forall_mem_cons.mpr ⟨cb_31, List.forall_mem_cons.mpr ⟨cb_32, List.forall_mem_cons.mpr ⟨cb_33, List.forall_mem_cons.mpr ⟨cb_34, List.forall_mem_cons.mpr ⟨cb_35, List.forall_mem_cons.mpr ⟨cb_36, List.forall_mem_cons.mpr ⟨cb_37, List.forall_mem_cons.mpr ⟨cb_38, List.forall_mem_cons.mpr ⟨cb_39, List.forall_mem_cons.mpr ⟨cb_40, List.forall_mem_cons.mpr ⟨cb_41, List.forall_mem_cons.mpr ⟨cb_42, List.forall_mem_cons.mpr ⟨cb_43, List.forall_mem_cons.mpr ⟨cb_44, List.forall_mem_cons.mpr ⟨cb_45, List.forall_mem_cons.mpr ⟨cb_46, List.forall_mem_cons.mpr ⟨cb_47, List.forall_mem_cons.mpr ⟨cb_48, List.forall_mem_cons.mpr ⟨cb_49, fun _ h => absurd h List.not_mem_nil⟩⟩⟩⟩⟩⟩⟩⟩⟩⟩⟩⟩⟩⟩⟩⟩⟩⟩⟩⟩⟩⟩⟩⟩⟩
def CB_2 : List Cond := [.code ⟨"TallySticks$Program", "setHead", "(II)V"⟩ prog_7_method_7_code 4 none, .code ⟨"TallySticks$Program", "addStep", "(II)V"⟩ prog_7_method_8_code 3 none, .code ⟨"TallySticks$Program", "aimStep", "(I)V"⟩ prog_7_method_9_code 2 none, .code ⟨"TallySticks$Reader", "<init>", "()V"⟩ prog_8_method_1_code 1 none, .code ⟨"TallySticks$Reader", "readText", "([IIZ)I"⟩ prog_8_method_2_code 5 (some .int), .code ⟨"TallySticks$Reader", "readLawHead", "()V"⟩ prog_8_method_3_code 1 none, .code ⟨"TallySticks$Reader", "readOrderHead", "()V"⟩ prog_8_method_4_code 1 none, .code ⟨"TallySticks$Reader", "readOneSum", "(I)V"⟩ prog_8_method_5_code 2 none, .code ⟨"TallySticks$Reader", "readTwoSums", "(ILjava/lang/String;)V"⟩ prog_8_method_6_code 3 none, .code ⟨"TallySticks$Reader", "readCondition", "()V"⟩ prog_8_method_7_code 1 none, .code ⟨"TallySticks$Reader", "readTest", "(I)V"⟩ prog_8_method_8_code 4 none, .code ⟨"TallySticks$Reader", "readBoth", "(I)V"⟩ prog_8_method_9_code 4 none, .code ⟨"TallySticks$Reader", "readPlain", "(I)V"⟩ prog_8_method_10_code 4 none, .code ⟨"TallySticks$Reader", "readSum", "(I)V"⟩ prog_8_method_11_code 4 none, .code ⟨"TallySticks$Reader", "readTerm", "(I)V"⟩ prog_8_method_12_code 4 none, .code ⟨"TallySticks$Reader", "readPart", "(I)V"⟩ prog_8_method_13_code 2 none, .code ⟨"TallySticks$Reader", "readWord", "(I)V"⟩ prog_8_method_14_code 3 none, .code ⟨"TallySticks$Reader", "lawWord", "()I"⟩ prog_8_method_15_code 1 (some .int), .code ⟨"TallySticks$Reader", "orderWord", "()I"⟩ prog_8_method_16_code 1 (some .int), .code ⟨"TallySticks$Reader", "takeComparison", "()I"⟩ prog_8_method_17_code 2 (some .int), .code ⟨"TallySticks$Reader", "readNumber", "(II)I"⟩ prog_8_method_18_code 4 (some .int), .code ⟨"TallySticks$Reader", "opensBracket", "(CI)Z"⟩ prog_8_method_19_code 3 (some .boolean), .code ⟨"TallySticks$Reader", "closeBracket", "(C)V"⟩ prog_8_method_20_code 2 none, .code ⟨"TallySticks$Reader", "fail", "()V"⟩ prog_8_method_21_code 1 none, .code ⟨"TallySticks$Reader", "isSign", "(C)Z"⟩ prog_8_method_22_code 2 (some .boolean)]
theorem cbs_2 : ∀ w ∈ CB_2, w ∈ lw_tbl := List.forall_mem_cons.mpr ⟨cb_50, List.forall_mem_cons.mpr ⟨cb_51, List.forall_mem_cons.mpr ⟨cb_52, List.forall_mem_cons.mpr ⟨cb_53, List.forall_mem_cons.mpr ⟨cb_54, List.forall_mem_cons.mpr ⟨cb_55, List.forall_mem_cons.mpr ⟨cb_56, List.forall_mem_cons.mpr ⟨cb_57, List.forall_mem_cons.mpr ⟨cb_58, List.forall_mem_cons.mpr ⟨cb_59, List.forall_mem_cons.mpr ⟨cb_60, List.forall_mem_cons.mpr ⟨cb_61, List.forall_mem_cons.mpr ⟨cb_62, List.forall_mem_cons.mpr ⟨cb_63, List.forall_mem_cons.mpr ⟨cb_64, List.forall_mem_cons.mpr ⟨cb_65, List.forall_mem_cons.mpr ⟨cb_66, List.forall_mem_cons.mpr ⟨cb_67, List.forall_mem_cons.mpr ⟨cb_68, List.forall_mem_cons.mpr ⟨cb_69, List.forall_mem_cons.mpr ⟨cb_70, List.forall_mem_cons.mpr ⟨cb_71, List.forall_mem_cons.mpr ⟨cb_72, List.forall_mem_cons.mpr ⟨cb_73, List.forall_mem_cons.mpr ⟨cb_74, fun _ h => absurd h List.not_mem_nil⟩⟩⟩⟩⟩⟩⟩⟩⟩⟩⟩⟩⟩⟩⟩⟩⟩⟩⟩⟩⟩⟩⟩⟩⟩
def CB_3 : List Cond := [.code ⟨"TallySticks$Reader", "takeSign", "(C)Z"⟩ prog_8_method_23_code 2 (some .boolean), .code ⟨"TallySticks$Reader", "isWord", "(Ljava/lang/String;)Z"⟩ prog_8_method_24_code 3 (some .boolean), .code ⟨"TallySticks$Reader", "takeWord", "(Ljava/lang/String;)Z"⟩ prog_8_method_25_code 2 (some .boolean), .code ⟨"TallySticks$Reader", "advance", "()V"⟩ prog_8_method_26_code 2 none, .code ⟨"TallySticks$Rules", "<init>", "()V"⟩ prog_9_method_1_code 1 none, .code ⟨"TallySticks$Rules", "startOrders", "(LTallySticks$Chest;)V"⟩ prog_9_method_2_code 2 none, .code ⟨"TallySticks$Rules", "payOf", "(LTallySticks$Chest;I)I"⟩ prog_9_method_3_code 3 (some .int), .code ⟨"TallySticks$Rules", "wearOf", "(LTallySticks$Chest;I)I"⟩ prog_9_method_4_code 3 (some .int), .code ⟨"TallySticks$Rules", "clamp", "(II)I"⟩ prog_9_method_5_code 2 (some .int), .code ⟨"TallySticks$Rules", "lastTold", "(LTallySticks$Chest;III)I"⟩ prog_9_method_6_code 9 (some .int), .code ⟨"TallySticks$Rules", "isBarred", "(LTallySticks$Chest;II)Z"⟩ prog_9_method_7_code 6 (some .boolean), .code ⟨"TallySticks$Rules", "tryGive", "(LTallySticks$Chest;II)I"⟩ prog_9_method_8_code 5 (some .int), .code ⟨"TallySticks$Rules", "tryCall", "(LTallySticks$Chest;I)I"⟩ prog_9_method_9_code 4 (some .int), .code ⟨"TallySticks$Rules", "tryShave", "(LTallySticks$Chest;II)I"⟩ prog_9_method_10_code 4 (some .int), .code ⟨"TallySticks$Rules", "tryPass", "(LTallySticks$Chest;)I"⟩ prog_9_method_11_code 2 (some .int), .code ⟨"TallySticks$Rules", "compute", "(LTallySticks$Program;II)I"⟩ prog_9_method_12_code 9 (some .int), .code ⟨"TallySticks$Rules", "combine", "(III)I"⟩ prog_9_method_13_code 5 (some .int), .code ⟨"TallySticks$Rules", "wordValue", "(II)I"⟩ prog_9_method_14_code 4 (some .int), .code ⟨"TallySticks", "<init>", "()V"⟩ prog_1_method_1_code 1 none, .code ⟨"TallySticks", "person", "(I)I"⟩ prog_1_method_2_code 2 (some .int), .code ⟨"TallySticks", "of", "(II)I"⟩ prog_1_method_3_code 3 (some .int), .code ⟨"TallySticks", "stick", "(IIIIII)I"⟩ prog_1_method_4_code 7 (some .int), .code ⟨"TallySticks", "at", "(II)I"⟩ prog_1_method_5_code 3 (some .int), .code ⟨"TallySticks", "foil", "(II)I"⟩ prog_1_method_6_code 3 (some .int), .code ⟨"TallySticks", "half", "(II)I"⟩ prog_1_method_7_code 3 (some .int)]
theorem cbs_3 : ∀ w ∈ CB_3, w ∈ lw_tbl := List.forall_mem_cons.mpr ⟨cb_75, List.forall_mem_cons.mpr ⟨cb_76, List.forall_mem_cons.mpr ⟨cb_77, List.forall_mem_cons.mpr ⟨cb_78, List.forall_mem_cons.mpr ⟨cb_79, List.forall_mem_cons.mpr ⟨cb_80, List.forall_mem_cons.mpr ⟨cb_81, List.forall_mem_cons.mpr ⟨cb_82, List.forall_mem_cons.mpr ⟨cb_83, List.forall_mem_cons.mpr ⟨cb_84, List.forall_mem_cons.mpr ⟨cb_85, List.forall_mem_cons.mpr ⟨cb_86, List.forall_mem_cons.mpr ⟨cb_87, List.forall_mem_cons.mpr ⟨cb_88, List.forall_mem_cons.mpr ⟨cb_89, List.forall_mem_cons.mpr ⟨cb_90, List.forall_mem_cons.mpr ⟨cb_91, List.forall_mem_cons.mpr ⟨cb_92, List.forall_mem_cons.mpr ⟨cb_93, List.forall_mem_cons.mpr ⟨cb_94, List.forall_mem_cons.mpr ⟨cb_95, List.forall_mem_cons.mpr ⟨cb_96, List.forall_mem_cons.mpr ⟨cb_97, List.forall_mem_cons.mpr ⟨cb_98, List.forall_mem_cons.mpr ⟨cb_99, fun _ h => absurd h List.not_mem_nil⟩⟩⟩⟩⟩⟩⟩⟩⟩⟩⟩⟩⟩⟩⟩⟩⟩⟩⟩⟩⟩⟩⟩⟩⟩
def CB_4 : List Cond := [.code ⟨"TallySticks", "terms", "(II)I"⟩ prog_1_method_8_code 4 (some .int), .code ⟨"TallySticks", "feed", "(IIIII)I"⟩ prog_1_method_9_code 6 (some .int), .code ⟨"TallySticks", "end", "(I)I"⟩ prog_1_method_10_code 2 (some .int), .code ⟨"TallySticks", "row", "()I"⟩ prog_1_method_11_code 5 (some .int), .code ⟨"TallySticks", "chips", "()I"⟩ prog_1_method_12_code 1 (some .int), .code ⟨"TallySticks", "law", "()I"⟩ prog_1_method_13_code 2 (some .int), .code ⟨"TallySticks", "orders", "()I"⟩ prog_1_method_14_code 5 (some .int), .code ⟨"TallySticks", "fault", "()I"⟩ prog_1_method_15_code 1 (some .int), .code ⟨"TallySticks", "stopped", "()I"⟩ prog_1_method_16_code 1 (some .int), .code ⟨"TallySticks", "force", "(I)I"⟩ prog_1_method_17_code 3 (some .int), .code ⟨"TallySticks", "asks", "(II)I"⟩ prog_1_method_18_code 3 (some .int), .code ⟨"TallySticks", "give", "(II)I"⟩ prog_1_method_19_code 3 (some .int), .code ⟨"TallySticks", "call", "(I)I"⟩ prog_1_method_20_code 2 (some .int), .code ⟨"TallySticks", "shave", "(II)I"⟩ prog_1_method_21_code 3 (some .int), .code ⟨"TallySticks", "pass", "()I"⟩ prog_1_method_22_code 1 (some .int), .code ⟨"TallySticks", "undo", "()I"⟩ prog_1_method_23_code 1 (some .int), .code ⟨"TallySticks", "fit", "(III)I"⟩ prog_1_method_24_code 4 (some .int), .code ⟨"TallySticks", "match", "(I)I"⟩ prog_1_method_25_code 3 (some .int), .code ⟨"TallySticks", "odd", "()I"⟩ prog_1_method_26_code 1 (some .int), .code ⟨"TallySticks", "apart", "(I)I"⟩ prog_1_method_27_code 3 (some .int), .code ⟨"TallySticks", "told", "(III)I"⟩ prog_1_method_28_code 4 (some .int), .code ⟨"TallySticks", "settle", "(I)I"⟩ prog_1_method_29_code 3 (some .int), .code ⟨"TallySticks", "ring", "(I)I"⟩ prog_1_method_30_code 3 (some .int), .code ⟨"TallySticks", "chain", "(II)I"⟩ prog_1_method_31_code 3 (some .int), .code ⟨"TallySticks", "calls", "(I)I"⟩ prog_1_method_32_code 2 (some .int)]
theorem cbs_4 : ∀ w ∈ CB_4, w ∈ lw_tbl := List.forall_mem_cons.mpr ⟨cb_100, List.forall_mem_cons.mpr ⟨cb_101, List.forall_mem_cons.mpr ⟨cb_102, List.forall_mem_cons.mpr ⟨cb_103, List.forall_mem_cons.mpr ⟨cb_104, List.forall_mem_cons.mpr ⟨cb_105, List.forall_mem_cons.mpr ⟨cb_106, List.forall_mem_cons.mpr ⟨cb_107, List.forall_mem_cons.mpr ⟨cb_108, List.forall_mem_cons.mpr ⟨cb_109, List.forall_mem_cons.mpr ⟨cb_110, List.forall_mem_cons.mpr ⟨cb_111, List.forall_mem_cons.mpr ⟨cb_112, List.forall_mem_cons.mpr ⟨cb_113, List.forall_mem_cons.mpr ⟨cb_114, List.forall_mem_cons.mpr ⟨cb_115, List.forall_mem_cons.mpr ⟨cb_116, List.forall_mem_cons.mpr ⟨cb_117, List.forall_mem_cons.mpr ⟨cb_118, List.forall_mem_cons.mpr ⟨cb_119, List.forall_mem_cons.mpr ⟨cb_120, List.forall_mem_cons.mpr ⟨cb_121, List.forall_mem_cons.mpr ⟨cb_122, List.forall_mem_cons.mpr ⟨cb_123, List.forall_mem_cons.mpr ⟨cb_124, fun _ h => absurd h List.not_mem_nil⟩⟩⟩⟩⟩⟩⟩⟩⟩⟩⟩⟩⟩⟩⟩⟩⟩⟩⟩⟩⟩⟩⟩⟩⟩
def CB_5 : List Cond := [.code ⟨"TallySticks", "years", "(II)I"⟩ prog_1_method_33_code 8 (some .int), .code ⟨"TallySticks", "drawn", "(II)I"⟩ prog_1_method_34_code 4 (some .int), .code ⟨"TallySticks", "image", "(I)I"⟩ prog_1_method_35_code 3 (some .int), .code ⟨"TallySticks", "back", "(I)I"⟩ prog_1_method_36_code 3 (some .int), .code ⟨"TallySticks", "count", "(I)I"⟩ prog_1_method_37_code 2 (some .int), .code ⟨"TallySticks", "status", "()I"⟩ prog_1_method_38_code 1 (some .int), .code ⟨"TallySticks", "isSum", "(I)Z"⟩ prog_1_method_39_code 1 (some .boolean), .code ⟨"TallySticks", "isGrain", "(I)Z"⟩ prog_1_method_40_code 1 (some .boolean), .code ⟨"TallySticks", "lastOfTerm", "(I)I"⟩ prog_1_method_41_code 1 (some .int), .code ⟨"TallySticks", "accept", "(I)I"⟩ prog_1_method_42_code 2 (some .int), .code ⟨"TallySticks", "refuse", "(I)I"⟩ prog_1_method_43_code 3 (some .int), .code ⟨"TallySticks", "answer", "(I)I"⟩ prog_1_method_44_code 2 (some .int), .code ⟨"TallySticks", "perform", "(III)I"⟩ prog_1_method_45_code 5 (some .int), .code ⟨"TallySticks", "runOrder", "(LTallySticks$Program;I)Z"⟩ prog_1_method_46_code 9 (some .boolean), .code ⟨"TallySticks", "nextDraw", "(I)I"⟩ prog_1_method_47_code 1 (some .int), .code ⟨"TallySticks", "emptyTape", "()I"⟩ prog_1_method_48_code 2 (some .int), .code ⟨"TallySticks", "putBytes", "(I)V"⟩ prog_1_method_49_code 3 none, .code ⟨"TallySticks", "cutFoil", "(III)Z"⟩ prog_1_method_50_code 4 (some .boolean), .code ⟨"TallySticksModel", "lies", "(III)Z"⟩ prog_11_method_1_code 3 (some .boolean), .code ⟨"TallySticksModel", "refuses", "(I)I"⟩ prog_11_method_2_code 2 (some .int), .code ⟨"TallySticksModel", "good", "(I)I"⟩ prog_11_method_3_code 2 (some .int), .code ⟨"TallySticksModel", "settled", "(I)I"⟩ prog_11_method_4_code 2 (some .int), .code ⟨"TallySticksModel", "isIn", "(II)Z"⟩ prog_11_method_5_code 2 (some .boolean), .code ⟨"TallySticksModel", "ones", "(I)I"⟩ prog_11_method_6_code 3 (some .int), .code ⟨"TallySticksModel", "lesser", "(II)I"⟩ prog_11_method_7_code 2 (some .int)]
theorem cbs_5 : ∀ w ∈ CB_5, w ∈ lw_tbl := List.forall_mem_cons.mpr ⟨cb_125, List.forall_mem_cons.mpr ⟨cb_126, List.forall_mem_cons.mpr ⟨cb_127, List.forall_mem_cons.mpr ⟨cb_128, List.forall_mem_cons.mpr ⟨cb_129, List.forall_mem_cons.mpr ⟨cb_130, List.forall_mem_cons.mpr ⟨cb_131, List.forall_mem_cons.mpr ⟨cb_132, List.forall_mem_cons.mpr ⟨cb_133, List.forall_mem_cons.mpr ⟨cb_134, List.forall_mem_cons.mpr ⟨cb_135, List.forall_mem_cons.mpr ⟨cb_136, List.forall_mem_cons.mpr ⟨cb_137, List.forall_mem_cons.mpr ⟨cb_138, List.forall_mem_cons.mpr ⟨cb_139, List.forall_mem_cons.mpr ⟨cb_140, List.forall_mem_cons.mpr ⟨cb_141, List.forall_mem_cons.mpr ⟨cb_142, List.forall_mem_cons.mpr ⟨cb_143, List.forall_mem_cons.mpr ⟨cb_144, List.forall_mem_cons.mpr ⟨cb_145, List.forall_mem_cons.mpr ⟨cb_146, List.forall_mem_cons.mpr ⟨cb_147, List.forall_mem_cons.mpr ⟨cb_148, List.forall_mem_cons.mpr ⟨cb_149, fun _ h => absurd h List.not_mem_nil⟩⟩⟩⟩⟩⟩⟩⟩⟩⟩⟩⟩⟩⟩⟩⟩⟩⟩⟩⟩⟩⟩⟩⟩⟩
def CB_6 : List Cond := [.code ⟨"TallySticksModel", "greater", "(II)I"⟩ prog_11_method_8_code 2 (some .int), .code ⟨"TallySticksModel", "<init>", "()V"⟩ prog_11_method_9_code 1 none, .code ⟨"TallySticksModel", "laysAside", "(I)V"⟩ prog_11_method_10_code 3 none, .code ⟨"TallySticksModel", "takesBack", "(I)V"⟩ prog_11_method_11_code 3 none, .code ⟨"TallySticksModel", "image", "(I)I"⟩ prog_11_method_12_code 3 (some .int), .code ⟨"TallySticksModel", "back", "(I)I"⟩ prog_11_method_13_code 3 (some .int), .code ⟨"TallySticksModel", "isPerson", "(I)Z"⟩ prog_11_method_14_code 2 (some .boolean), .code ⟨"TallySticksModel", "isStick", "(I)Z"⟩ prog_11_method_15_code 2 (some .boolean), .code ⟨"TallySticksModel", "isFoil", "(I)Z"⟩ prog_11_method_16_code 2 (some .boolean), .code ⟨"TallySticksModel", "isPaid", "(I)Z"⟩ prog_11_method_17_code 2 (some .boolean), .code ⟨"TallySticksModel", "isGrain", "(I)Z"⟩ prog_11_method_18_code 1 (some .boolean), .code ⟨"TallySticksModel", "person", "(I)I"⟩ prog_11_method_19_code 3 (some .int), .code ⟨"TallySticksModel", "netOf", "(I)I"⟩ prog_11_method_20_code 4 (some .int), .code ⟨"TallySticksModel", "manyOf", "(II)I"⟩ prog_11_method_21_code 5 (some .int), .code ⟨"TallySticksModel", "of", "(II)I"⟩ prog_11_method_22_code 3 (some .int), .code ⟨"TallySticksModel", "stick", "(IIIIII)I"⟩ prog_11_method_23_code 8 (some .int), .code ⟨"TallySticksModel", "at", "(II)I"⟩ prog_11_method_24_code 3 (some .int), .code ⟨"TallySticksModel", "canFoil", "(II)Z"⟩ prog_11_method_25_code 3 (some .boolean), .code ⟨"TallySticksModel", "addsFoil", "(II)V"⟩ prog_11_method_26_code 3 none, .code ⟨"TallySticksModel", "foil", "(II)I"⟩ prog_11_method_27_code 3 (some .int), .code ⟨"TallySticksModel", "half", "(II)I"⟩ prog_11_method_28_code 3 (some .int), .code ⟨"TallySticksModel", "terms", "(II)I"⟩ prog_11_method_29_code 5 (some .int), .code ⟨"TallySticksModel", "row", "()I"⟩ prog_11_method_30_code 8 (some .int), .code ⟨"TallySticksModel", "chips", "()I"⟩ prog_11_method_31_code 1 (some .int), .code ⟨"TallySticksModel", "feed", "(IIIII)I"⟩ prog_11_method_32_code 7 (some .int)]
theorem cbs_6 : ∀ w ∈ CB_6, w ∈ lw_tbl := List.forall_mem_cons.mpr ⟨cb_150, List.forall_mem_cons.mpr ⟨cb_151, List.forall_mem_cons.mpr ⟨cb_152, List.forall_mem_cons.mpr ⟨cb_153, List.forall_mem_cons.mpr ⟨cb_154, List.forall_mem_cons.mpr ⟨cb_155, List.forall_mem_cons.mpr ⟨cb_156, List.forall_mem_cons.mpr ⟨cb_157, List.forall_mem_cons.mpr ⟨cb_158, List.forall_mem_cons.mpr ⟨cb_159, List.forall_mem_cons.mpr ⟨cb_160, List.forall_mem_cons.mpr ⟨cb_161, List.forall_mem_cons.mpr ⟨cb_162, List.forall_mem_cons.mpr ⟨cb_163, List.forall_mem_cons.mpr ⟨cb_164, List.forall_mem_cons.mpr ⟨cb_165, List.forall_mem_cons.mpr ⟨cb_166, List.forall_mem_cons.mpr ⟨cb_167, List.forall_mem_cons.mpr ⟨cb_168, List.forall_mem_cons.mpr ⟨cb_169, List.forall_mem_cons.mpr ⟨cb_170, List.forall_mem_cons.mpr ⟨cb_171, List.forall_mem_cons.mpr ⟨cb_172, List.forall_mem_cons.mpr ⟨cb_173, List.forall_mem_cons.mpr ⟨cb_174, fun _ h => absurd h List.not_mem_nil⟩⟩⟩⟩⟩⟩⟩⟩⟩⟩⟩⟩⟩⟩⟩⟩⟩⟩⟩⟩⟩⟩⟩⟩⟩
def CB_7 : List Cond := [.code ⟨"TallySticksModel", "end", "(I)I"⟩ prog_11_method_33_code 2 (some .int), .code ⟨"TallySticksModel", "isSmall", "(I)Z"⟩ prog_11_method_34_code 1 (some .boolean), .code ⟨"TallySticksModel", "isDigit", "(I)Z"⟩ prog_11_method_35_code 1 (some .boolean), .code ⟨"TallySticksModel", "wordOf", "(II)I"⟩ prog_11_method_36_code 8 (some .int), .code ⟨"TallySticksModel", "splits", "(I)V"⟩ prog_11_method_37_code 6 none, .code ⟨"TallySticksModel", "fine", "()Z"⟩ prog_11_method_38_code 1 (some .boolean), .code ⟨"TallySticksModel", "faults", "()V"⟩ prog_11_method_39_code 1 none, .code ⟨"TallySticksModel", "takes0", "(I)Z"⟩ prog_11_method_40_code 3 (some .boolean), .code ⟨"TallySticksModel", "must", "(I)V"⟩ prog_11_method_41_code 2 none, .code ⟨"TallySticksModel", "leaf", "()V"⟩ prog_11_method_42_code 1 none, .code ⟨"TallySticksModel", "sign", "(C)I"⟩ prog_11_method_43_code 1 (some .int), .code ⟨"TallySticksModel", "mustNumber", "(II)V"⟩ prog_11_method_44_code 3 none, .code ⟨"TallySticksModel", "readClause", "()V"⟩ prog_11_method_45_code 1 none, .code ⟨"TallySticksModel", "readOrder", "()V"⟩ prog_11_method_46_code 1 none, .code ⟨"TallySticksModel", "readOne", "()V"⟩ prog_11_method_47_code 1 none, .code ⟨"TallySticksModel", "readTest", "(I)V"⟩ prog_11_method_48_code 2 none, .code ⟨"TallySticksModel", "readBoth", "(I)V"⟩ prog_11_method_49_code 2 none, .code ⟨"TallySticksModel", "readPlain", "(I)V"⟩ prog_11_method_50_code 4 none, .code ⟨"TallySticksModel", "readSum", "(I)V"⟩ prog_11_method_51_code 2 none, .code ⟨"TallySticksModel", "readTerm", "(I)V"⟩ prog_11_method_52_code 2 none, .code ⟨"TallySticksModel", "readPart", "(I)V"⟩ prog_11_method_53_code 3 none, .code ⟨"TallySticksModel", "reads", "()Z"⟩ prog_11_method_54_code 2 (some .boolean), .code ⟨"TallySticksModel", "readsAs", "(Z)Z"⟩ prog_11_method_55_code 2 (some .boolean), .code ⟨"TallySticksModel", "lays", "(I)V"⟩ prog_11_method_56_code 3 none, .code ⟨"TallySticksModel", "law", "()I"⟩ prog_11_method_57_code 1 (some .int)]
theorem cbs_7 : ∀ w ∈ CB_7, w ∈ lw_tbl := List.forall_mem_cons.mpr ⟨cb_175, List.forall_mem_cons.mpr ⟨cb_176, List.forall_mem_cons.mpr ⟨cb_177, List.forall_mem_cons.mpr ⟨cb_178, List.forall_mem_cons.mpr ⟨cb_179, List.forall_mem_cons.mpr ⟨cb_180, List.forall_mem_cons.mpr ⟨cb_181, List.forall_mem_cons.mpr ⟨cb_182, List.forall_mem_cons.mpr ⟨cb_183, List.forall_mem_cons.mpr ⟨cb_184, List.forall_mem_cons.mpr ⟨cb_185, List.forall_mem_cons.mpr ⟨cb_186, List.forall_mem_cons.mpr ⟨cb_187, List.forall_mem_cons.mpr ⟨cb_188, List.forall_mem_cons.mpr ⟨cb_189, List.forall_mem_cons.mpr ⟨cb_190, List.forall_mem_cons.mpr ⟨cb_191, List.forall_mem_cons.mpr ⟨cb_192, List.forall_mem_cons.mpr ⟨cb_193, List.forall_mem_cons.mpr ⟨cb_194, List.forall_mem_cons.mpr ⟨cb_195, List.forall_mem_cons.mpr ⟨cb_196, List.forall_mem_cons.mpr ⟨cb_197, List.forall_mem_cons.mpr ⟨cb_198, List.forall_mem_cons.mpr ⟨cb_199, fun _ h => absurd h List.not_mem_nil⟩⟩⟩⟩⟩⟩⟩⟩⟩⟩⟩⟩⟩⟩⟩⟩⟩⟩⟩⟩⟩⟩⟩⟩⟩
def CB_8 : List Cond := [.code ⟨"TallySticksModel", "fault", "()I"⟩ prog_11_method_58_code 1 (some .int), .code ⟨"TallySticksModel", "force", "(I)I"⟩ prog_11_method_59_code 3 (some .int), .code ⟨"TallySticksModel", "codeAt", "(I)I"⟩ prog_11_method_60_code 2 (some .int), .code ⟨"TallySticksModel", "passes0", "(I)Z"⟩ prog_11_method_61_code 3 (some .boolean), .code ⟨"TallySticksModel", "bounded", "(JZ)J"⟩ prog_11_method_62_code 4 (some .long), .code ⟨"TallySticksModel", "sumOf", "(Z)J"⟩ prog_11_method_63_code 7 (some .long), .code ⟨"TallySticksModel", "termOf", "(Z)J"⟩ prog_11_method_64_code 7 (some .long), .code ⟨"TallySticksModel", "partOf", "(Z)J"⟩ prog_11_method_65_code 4 (some .long), .code ⟨"TallySticksModel", "orderValue", "(II)I"⟩ prog_11_method_66_code 3 (some .int), .code ⟨"TallySticksModel", "testOf", "(Z)Z"⟩ prog_11_method_67_code 4 (some .boolean), .code ⟨"TallySticksModel", "bothOf", "(Z)Z"⟩ prog_11_method_68_code 4 (some .boolean), .code ⟨"TallySticksModel", "plainOf", "(Z)Z"⟩ prog_11_method_69_code 3 (some .boolean), .code ⟨"TallySticksModel", "positiveOf", "(Z)Z"⟩ prog_11_method_70_code 7 (some .boolean), .code ⟨"TallySticksModel", "tells", "(IIIII)I"⟩ prog_11_method_71_code 13 (some .int), .code ⟨"TallySticksModel", "paysBy", "(I)I"⟩ prog_11_method_72_code 2 (some .int), .code ⟨"TallySticksModel", "wornIn", "(I)I"⟩ prog_11_method_73_code 2 (some .int), .code ⟨"TallySticksModel", "isBarred", "(II)Z"⟩ prog_11_method_74_code 3 (some .boolean), .code ⟨"TallySticksModel", "asks", "(II)I"⟩ prog_11_method_75_code 3 (some .int), .code ⟨"TallySticksModel", "canGive", "(II)Z"⟩ prog_11_method_76_code 3 (some .boolean), .code ⟨"TallySticksModel", "gives", "(II)I"⟩ prog_11_method_77_code 4 (some .int), .code ⟨"TallySticksModel", "moves", "(II)V"⟩ prog_11_method_78_code 3 none, .code ⟨"TallySticksModel", "isDue", "(I)Z"⟩ prog_11_method_79_code 2 (some .boolean), .code ⟨"TallySticksModel", "canCall", "(I)Z"⟩ prog_11_method_80_code 2 (some .boolean), .code ⟨"TallySticksModel", "calls0", "(I)I"⟩ prog_11_method_81_code 3 (some .int), .code ⟨"TallySticksModel", "keeps", "(I)V"⟩ prog_11_method_82_code 4 none]
theorem cbs_8 : ∀ w ∈ CB_8, w ∈ lw_tbl := List.forall_mem_cons.mpr ⟨cb_200, List.forall_mem_cons.mpr ⟨cb_201, List.forall_mem_cons.mpr ⟨cb_202, List.forall_mem_cons.mpr ⟨cb_203, List.forall_mem_cons.mpr ⟨cb_204, List.forall_mem_cons.mpr ⟨cb_205, List.forall_mem_cons.mpr ⟨cb_206, List.forall_mem_cons.mpr ⟨cb_207, List.forall_mem_cons.mpr ⟨cb_208, List.forall_mem_cons.mpr ⟨cb_209, List.forall_mem_cons.mpr ⟨cb_210, List.forall_mem_cons.mpr ⟨cb_211, List.forall_mem_cons.mpr ⟨cb_212, List.forall_mem_cons.mpr ⟨cb_213, List.forall_mem_cons.mpr ⟨cb_214, List.forall_mem_cons.mpr ⟨cb_215, List.forall_mem_cons.mpr ⟨cb_216, List.forall_mem_cons.mpr ⟨cb_217, List.forall_mem_cons.mpr ⟨cb_218, List.forall_mem_cons.mpr ⟨cb_219, List.forall_mem_cons.mpr ⟨cb_220, List.forall_mem_cons.mpr ⟨cb_221, List.forall_mem_cons.mpr ⟨cb_222, List.forall_mem_cons.mpr ⟨cb_223, List.forall_mem_cons.mpr ⟨cb_224, fun _ h => absurd h List.not_mem_nil⟩⟩⟩⟩⟩⟩⟩⟩⟩⟩⟩⟩⟩⟩⟩⟩⟩⟩⟩⟩⟩⟩⟩⟩⟩
def CB_9 : List Cond := [.code ⟨"TallySticksModel", "undo", "()I"⟩ prog_11_method_83_code 3 (some .int), .code ⟨"TallySticksModel", "goodOr", "(I)I"⟩ prog_11_method_84_code 2 (some .int), .code ⟨"TallySticksModel", "givesKept", "(II)I"⟩ prog_11_method_85_code 3 (some .int), .code ⟨"TallySticksModel", "callsKept", "(I)I"⟩ prog_11_method_86_code 2 (some .int), .code ⟨"TallySticksModel", "shavesKept", "(II)I"⟩ prog_11_method_87_code 3 (some .int), .code ⟨"TallySticksModel", "passesKept", "()I"⟩ prog_11_method_88_code 1 (some .int), .code ⟨"TallySticksModel", "give", "(II)I"⟩ prog_11_method_89_code 3 (some .int), .code ⟨"TallySticksModel", "call", "(I)I"⟩ prog_11_method_90_code 2 (some .int), .code ⟨"TallySticksModel", "shave", "(II)I"⟩ prog_11_method_91_code 3 (some .int), .code ⟨"TallySticksModel", "pass", "()I"⟩ prog_11_method_92_code 1 (some .int), .code ⟨"TallySticksModel", "unlike", "(II)I"⟩ prog_11_method_93_code 3 (some .int), .code ⟨"TallySticksModel", "doesFit", "(II)Z"⟩ prog_11_method_94_code 3 (some .boolean), .code ⟨"TallySticksModel", "fit", "(III)I"⟩ prog_11_method_95_code 4 (some .int), .code ⟨"TallySticksModel", "laysFits", "()V"⟩ prog_11_method_96_code 3 none, .code ⟨"TallySticksModel", "mostAt", "(II)I"⟩ prog_11_method_97_code 3 (some .int), .code ⟨"TallySticksModel", "laysMost", "()V"⟩ prog_11_method_98_code 6 none, .code ⟨"TallySticksModel", "firstFoil", "(II)I"⟩ prog_11_method_99_code 4 (some .int), .code ⟨"TallySticksModel", "match", "(I)I"⟩ prog_11_method_100_code 5 (some .int), .code ⟨"TallySticksModel", "odd", "()I"⟩ prog_11_method_101_code 5 (some .int), .code ⟨"TallySticksModel", "tellsApart", "(I)Z"⟩ prog_11_method_102_code 5 (some .boolean), .code ⟨"TallySticksModel", "apart", "(I)I"⟩ prog_11_method_103_code 4 (some .int), .code ⟨"TallySticksModel", "notchesAbove", "(II)I"⟩ prog_11_method_104_code 5 (some .int), .code ⟨"TallySticksModel", "told", "(III)I"⟩ prog_11_method_105_code 9 (some .int), .code ⟨"TallySticksModel", "areEven", "(I)Z"⟩ prog_11_method_106_code 4 (some .boolean), .code ⟨"TallySticksModel", "triesGroup", "(II)V"⟩ prog_11_method_107_code 4 none]
theorem cbs_9 : ∀ w ∈ CB_9, w ∈ lw_tbl := List.forall_mem_cons.mpr ⟨cb_225, List.forall_mem_cons.mpr ⟨cb_226, List.forall_mem_cons.mpr ⟨cb_227, List.forall_mem_cons.mpr ⟨cb_228, List.forall_mem_cons.mpr ⟨cb_229, List.forall_mem_cons.mpr ⟨cb_230, List.forall_mem_cons.mpr ⟨cb_231, List.forall_mem_cons.mpr ⟨cb_232, List.forall_mem_cons.mpr ⟨cb_233, List.forall_mem_cons.mpr ⟨cb_234, List.forall_mem_cons.mpr ⟨cb_235, List.forall_mem_cons.mpr ⟨cb_236, List.forall_mem_cons.mpr ⟨cb_237, List.forall_mem_cons.mpr ⟨cb_238, List.forall_mem_cons.mpr ⟨cb_239, List.forall_mem_cons.mpr ⟨cb_240, List.forall_mem_cons.mpr ⟨cb_241, List.forall_mem_cons.mpr ⟨cb_242, List.forall_mem_cons.mpr ⟨cb_243, List.forall_mem_cons.mpr ⟨cb_244, List.forall_mem_cons.mpr ⟨cb_245, List.forall_mem_cons.mpr ⟨cb_246, List.forall_mem_cons.mpr ⟨cb_247, List.forall_mem_cons.mpr ⟨cb_248, List.forall_mem_cons.mpr ⟨cb_249, fun _ h => absurd h List.not_mem_nil⟩⟩⟩⟩⟩⟩⟩⟩⟩⟩⟩⟩⟩⟩⟩⟩⟩⟩⟩⟩⟩⟩⟩⟩⟩
def CB_10 : List Cond := [.code ⟨"TallySticksModel", "laysNets", "()I"⟩ prog_11_method_108_code 3 (some .int), .code ⟨"TallySticksModel", "settle", "(I)I"⟩ prog_11_method_109_code 3 (some .int), .code ⟨"TallySticksModel", "comesRound", "(III)Z"⟩ prog_11_method_110_code 6 (some .boolean), .code ⟨"TallySticksModel", "hasRing", "(I)Z"⟩ prog_11_method_111_code 3 (some .boolean), .code ⟨"TallySticksModel", "ring", "(I)I"⟩ prog_11_method_112_code 3 (some .int), .code ⟨"TallySticksModel", "chain", "(II)I"⟩ prog_11_method_113_code 7 (some .int), .code ⟨"TallySticksModel", "triesCall", "(I)V"⟩ prog_11_method_114_code 3 none, .code ⟨"TallySticksModel", "manyDue", "()I"⟩ prog_11_method_115_code 3 (some .int), .code ⟨"TallySticksModel", "calls", "(I)I"⟩ prog_11_method_116_code 2 (some .int), .code ⟨"TallySticksModel", "stopped", "()I"⟩ prog_11_method_117_code 1 (some .int), .code ⟨"TallySticksModel", "orders", "()I"⟩ prog_11_method_118_code 5 (some .int), .code ⟨"TallySticksModel", "goesAlong", "(IZ)V"⟩ prog_11_method_119_code 5 none, .code ⟨"TallySticksModel", "small", "(J)I"⟩ prog_11_method_120_code 2 (some .int), .code ⟨"TallySticksModel", "obeys", "()I"⟩ prog_11_method_121_code 4 (some .int), .code ⟨"TallySticksModel", "runs", "(I)Z"⟩ prog_11_method_122_code 5 (some .boolean), .code ⟨"TallySticksModel", "draws", "(I)I"⟩ prog_11_method_123_code 2 (some .int), .code ⟨"TallySticksModel", "callsOrGives", "(II)Z"⟩ prog_11_method_124_code 3 (some .boolean), .code ⟨"TallySticksModel", "laysDrawn", "()V"⟩ prog_11_method_125_code 2 none, .code ⟨"TallySticksModel", "years", "(II)I"⟩ prog_11_method_126_code 7 (some .int), .code ⟨"TallySticksModel", "drawn", "(II)I"⟩ prog_11_method_127_code 3 (some .int), .code ⟨"TallySticksModel", "manyPaid", "()I"⟩ prog_11_method_128_code 3 (some .int), .code ⟨"TallySticksModel", "count", "(I)I"⟩ prog_11_method_129_code 2 (some .int), .code ⟨"TallySticksModel", "status", "()I"⟩ prog_11_method_130_code 1 (some .int), .code ⟨"java/lang/Integer", "bitCount", "(I)I"⟩ prog_12_method_49_code 1 (some .int), .code ⟨"java/lang/Math", "max", "(II)I"⟩ prog_13_method_65_code 2 (some .int)]
theorem cbs_10 : ∀ w ∈ CB_10, w ∈ lw_tbl := List.forall_mem_cons.mpr ⟨cb_250, List.forall_mem_cons.mpr ⟨cb_251, List.forall_mem_cons.mpr ⟨cb_252, List.forall_mem_cons.mpr ⟨cb_253, List.forall_mem_cons.mpr ⟨cb_254, List.forall_mem_cons.mpr ⟨cb_255, List.forall_mem_cons.mpr ⟨cb_256, List.forall_mem_cons.mpr ⟨cb_257, List.forall_mem_cons.mpr ⟨cb_258, List.forall_mem_cons.mpr ⟨cb_259, List.forall_mem_cons.mpr ⟨cb_260, List.forall_mem_cons.mpr ⟨cb_261, List.forall_mem_cons.mpr ⟨cb_262, List.forall_mem_cons.mpr ⟨cb_263, List.forall_mem_cons.mpr ⟨cb_264, List.forall_mem_cons.mpr ⟨cb_265, List.forall_mem_cons.mpr ⟨cb_266, List.forall_mem_cons.mpr ⟨cb_267, List.forall_mem_cons.mpr ⟨cb_268, List.forall_mem_cons.mpr ⟨cb_269, List.forall_mem_cons.mpr ⟨cb_270, List.forall_mem_cons.mpr ⟨cb_271, List.forall_mem_cons.mpr ⟨cb_272, List.forall_mem_cons.mpr ⟨cb_273, List.forall_mem_cons.mpr ⟨cb_274, fun _ h => absurd h List.not_mem_nil⟩⟩⟩⟩⟩⟩⟩⟩⟩⟩⟩⟩⟩⟩⟩⟩⟩⟩⟩⟩⟩⟩⟩⟩⟩
def CB_11 : List Cond := [.code ⟨"java/lang/Math", "min", "(II)I"⟩ prog_13_method_69_code 2 (some .int)]
theorem cbs_11 : ∀ w ∈ CB_11, w ∈ lw_tbl := List.forall_mem_cons.mpr ⟨cb_275, fun _ h => absurd h List.not_mem_nil⟩
def CBa : List Cond := CB_0 ++ (CB_1 ++ (CB_2 ++ (CB_3 ++ (CB_4 ++ (CB_5 ++ (CB_6 ++ (CB_7 ++ (CB_8 ++ (CB_9 ++ (CB_10 ++ (CB_11)))))))))))
set_option maxRecDepth 100000 in
theorem CB_eq : CB = CBa ++ [Cond.code ⟨"TallySticksLaw", "law", "([I)Z"⟩ code 4 (some .boolean)] := rfl
theorem CB_mem : ∀ w ∈ CBa, w ∈ lw_tbl := List.forall_mem_append.mpr ⟨cbs_0, List.forall_mem_append.mpr ⟨cbs_1, List.forall_mem_append.mpr ⟨cbs_2, List.forall_mem_append.mpr ⟨cbs_3, List.forall_mem_append.mpr ⟨cbs_4, List.forall_mem_append.mpr ⟨cbs_5, List.forall_mem_append.mpr ⟨cbs_6, List.forall_mem_append.mpr ⟨cbs_7, List.forall_mem_append.mpr ⟨cbs_8, List.forall_mem_append.mpr ⟨cbs_9, List.forall_mem_append.mpr ⟨cbs_10, cbs_11⟩⟩⟩⟩⟩⟩⟩⟩⟩⟩⟩
set_option maxRecDepth 100000 in
theorem CB_len : CBa.length = 276 := rfl
theorem ckB (i : Nat) (h : i < 276) : Cond.code (yT i) (bc i) (mxL i) (rtT i) ∈ lw_tbl := by
  rw [← cb_eta (ckW i (by omega))]
  refine CB_mem _ (List.mem_of_getElem? (i := i) ?_)
  show _ = some (CB.getD i _)
  rw [List.getD_eq_getElem?_getD, CB_eq, List.getElem?_append_left (by rw [CB_len]; exact h)]
  rw [List.getElem?_eq_getElem (by rw [CB_len]; exact h)]
  rfl
