def m_T_init : zMeth := (⟨"TroupeSums", "<init>", "()V"⟩, prog_1_method_1_code, 1, none, 0, 0, 6, 133)
def m_Tokens_init : zMeth := (⟨"TroupeSums$Tokens", "<init>", "()V"⟩, prog_9_method_1_code, 1, none, 1, 0, 2, 51)
def m_IntRow_init : zMeth := (⟨"TroupeSums$IntRow", "<init>", "(I)V"⟩, prog_4_method_1_code, 2, none, 2, 1, 1, 30)
def m_Reader_init : zMeth := (⟨"TroupeSums$Reader", "<init>", "(LTroupeSums$Tokens;)V"⟩, prog_6_method_1_code, 2, none, 3, 1, 1, 20)
def m_Troupe_init : zMeth := (⟨"TroupeSums$Troupe", "<init>", "()V"⟩, prog_10_method_1_code, 1, none, 4, 0, 3, 72)
def m_Group_init : zMeth := (⟨"TroupeSums$Group", "<init>", "()V"⟩, prog_3_method_1_code, 1, none, 5, 0, 2, 51)
def m_Sorts_init : zMeth := (⟨"TroupeSums$Sorts", "<init>", "(LTroupeSums$Group;)V"⟩, prog_7_method_1_code, 2, none, 6, 1, 2, 51)
def m_Sums_init : zMeth := (⟨"TroupeSums$Sums", "<init>", "(LTroupeSums$Sorts;)V"⟩, prog_8_method_1_code, 2, none, 7, 1, 2, 51)
def m_LongRow_init : zMeth := (⟨"TroupeSums$LongRow", "<init>", "(I)V"⟩, prog_5_method_1_code, 2, none, 8, 1, 1, 30)
def m_Units_init : zMeth := (⟨"TroupeSums$Units", "<init>", "(LTroupeSums$Sorts;)V"⟩, prog_11_method_1_code, 2, none, 9, 1, 2, 51)
def m_Calc_init : zMeth := (⟨"TroupeSums$Calculator", "<init>", "(LTroupeSums$Sums;)V"⟩, prog_2_method_1_code, 2, none, 10, 1, 2, 51)
def m_Troupe_begin : zMeth := (⟨"TroupeSums$Troupe", "begin", "(I)V"⟩, prog_10_method_2_code, 2, none, 4, 1, 4, 90)
def m_Group_begin : zMeth := (⟨"TroupeSums$Group", "begin", "(I)V"⟩, prog_3_method_2_code, 2, none, 5, 1, 3, 69)
def m_Group_gather : zMeth := (⟨"TroupeSums$Group", "gather", "()Z"⟩, prog_3_method_4_code, 5, (some .boolean), 5, 0, 2, 45)
def m_T_codeOf : zMeth := (⟨"TroupeSums", "codeOf", "(II)I"⟩, prog_1_method_54_code, 2, (some .int), 0, 2, 0, 0)
def m_IntRow_put : zMeth := (⟨"TroupeSums$IntRow", "put", "(II)V"⟩, prog_4_method_3_code, 3, none, 2, 2, 0, 0)
def m_IntRow_at : zMeth := (⟨"TroupeSums$IntRow", "at", "(I)I"⟩, prog_4_method_2_code, 2, (some .int), 2, 1, 0, 0)
def m_Group_behind : zMeth := (⟨"TroupeSums$Group", "behind", "(II)I"⟩, prog_3_method_5_code, 5, (some .int), 5, 2, 1, 21)
def m_T_placeIn : zMeth := (⟨"TroupeSums", "placeIn", "(II)I"⟩, prog_1_method_53_code, 2, (some .int), 0, 2, 0, 0)
def m_Group_indexOf : zMeth := (⟨"TroupeSums$Group", "indexOf", "(I)I"⟩, prog_3_method_6_code, 3, (some .int), 5, 1, 1, 21)
def m_Troupe_settle : zMeth := (⟨"TroupeSums$Troupe", "settle", "()V"⟩, prog_10_method_3_code, 1, none, 4, 0, 5, 113)
def m_Group_settle : zMeth := (⟨"TroupeSums$Group", "settle", "()V"⟩, prog_3_method_7_code, 4, none, 5, 0, 2, 45)
def m_Sorts_settle : zMeth := (⟨"TroupeSums$Sorts", "settle", "()V"⟩, prog_7_method_2_code, 3, none, 6, 0, 4, 91)
def m_T_isIn : zMeth := (⟨"TroupeSums", "isIn", "(II)Z"⟩, prog_1_method_51_code, 2, (some .boolean), 0, 2, 0, 0)
def m_Group_spanOf : zMeth := (⟨"TroupeSums$Group", "spanOf", "(I)I"⟩, prog_3_method_15_code, 7, (some .int), 5, 1, 2, 43)
def m_Group_both : zMeth := (⟨"TroupeSums$Group", "both", "(II)I"⟩, prog_3_method_12_code, 3, (some .int), 5, 2, 1, 21)
def m_Sorts_addSubgroup : zMeth := (⟨"TroupeSums$Sorts", "addSubgroup", "(I)V"⟩, prog_7_method_3_code, 2, none, 6, 1, 2, 43)
def m_Sorts_indexOf : zMeth := (⟨"TroupeSums$Sorts", "indexOf", "(I)I"⟩, prog_7_method_4_code, 3, (some .int), 6, 1, 1, 21)
def m_Sorts_arrange : zMeth := (⟨"TroupeSums$Sorts", "arrange", "()V"⟩, prog_7_method_5_code, 4, none, 6, 0, 2, 42)
def m_Sorts_isAhead : zMeth := (⟨"TroupeSums$Sorts", "isAhead", "(II)Z"⟩, prog_7_method_6_code, 3, (some .boolean), 6, 2, 1, 20)
def m_Integer_bitCount : zMeth := (⟨"java/lang/Integer", "bitCount", "(I)I"⟩, prog_14_method_49_code, 1, (some .int), 14, 1, 0, 0)
def m_Sorts_numberSorts : zMeth := (⟨"TroupeSums$Sorts", "numberSorts", "()V"⟩, prog_7_method_7_code, 3, none, 6, 0, 3, 68)
def m_Group_turnAll : zMeth := (⟨"TroupeSums$Group", "turnAll", "(II)I"⟩, prog_3_method_17_code, 5, (some .int), 5, 2, 2, 44)
def m_Group_turn : zMeth := (⟨"TroupeSums$Group", "turn", "(II)I"⟩, prog_3_method_16_code, 4, (some .int), 5, 2, 1, 21)
def m_Sorts_fillTable : zMeth := (⟨"TroupeSums$Sorts", "fillTable", "()V"⟩, prog_7_method_8_code, 4, none, 6, 0, 3, 68)
def m_Sorts_countTurned : zMeth := (⟨"TroupeSums$Sorts", "countTurned", "(II)V"⟩, prog_7_method_9_code, 4, none, 6, 2, 2, 43)
def m_T_isPart : zMeth := (⟨"TroupeSums", "isPart", "(II)Z"⟩, prog_1_method_52_code, 2, (some .boolean), 0, 2, 0, 0)
def m_Sorts_markAt : zMeth := (⟨"TroupeSums$Sorts", "markAt", "(II)I"⟩, prog_7_method_11_code, 3, (some .int), 6, 2, 1, 21)
def m_Units_forget : zMeth := (⟨"TroupeSums$Units", "forget", "()V"⟩, prog_11_method_2_code, 1, none, 9, 0, 0, 0)
def m_Sums_putSingle : zMeth := (⟨"TroupeSums$Sums", "putSingle", "(IIJ)V"⟩, prog_8_method_4_code, 6, none, 7, 3, 1, 23)
def m_LongRow_put : zMeth := (⟨"TroupeSums$LongRow", "put", "(IJ)V"⟩, prog_5_method_3_code, 4, none, 8, 2, 0, 0)
def m_T_feed : zMeth := (⟨"TroupeSums", "feed", "(IIIII)I"⟩, prog_1_method_2_code, 6, (some .int), 0, 5, 2, 44)
def m_Tokens_append : zMeth := (⟨"TroupeSums$Tokens", "append", "(I)V"⟩, prog_9_method_2_code, 3, none, 1, 1, 1, 22)
def m_T_end : zMeth := (⟨"TroupeSums", "end", "(I)I"⟩, prog_1_method_3_code, 2, (some .int), 0, 1, 0, 0)
def m_T_troupe : zMeth := (⟨"TroupeSums", "troupe", "()I"⟩, prog_1_method_4_code, 3, (some .int), 0, 0, 11, 242)
def m_Reader_begin : zMeth := (⟨"TroupeSums$Reader", "begin", "()V"⟩, prog_6_method_2_code, 1, none, 3, 0, 5, 106)
def m_Tokens_rewind : zMeth := (⟨"TroupeSums$Tokens", "rewind", "()V"⟩, prog_9_method_3_code, 1, none, 1, 0, 4, 86)
def m_Tokens_step : zMeth := (⟨"TroupeSums$Tokens", "step", "()V"⟩, prog_9_method_4_code, 1, none, 1, 0, 3, 66)
def m_Tokens_pastBlanks : zMeth := (⟨"TroupeSums$Tokens", "pastBlanks", "(I)I"⟩, prog_9_method_7_code, 3, (some .int), 1, 1, 1, 21)
def m_Tokens_isBlank : zMeth := (⟨"TroupeSums$Tokens", "isBlank", "(I)Z"⟩, prog_9_method_10_code, 1, (some .boolean), 1, 1, 0, 0)
def m_Tokens_isLetter : zMeth := (⟨"TroupeSums$Tokens", "isLetter", "(I)Z"⟩, prog_9_method_11_code, 1, (some .boolean), 1, 1, 0, 0)
def m_Tokens_readWord : zMeth := (⟨"TroupeSums$Tokens", "readWord", "()V"⟩, prog_9_method_5_code, 1, none, 1, 0, 1, 21)
def m_Tokens_isDigit : zMeth := (⟨"TroupeSums$Tokens", "isDigit", "(I)Z"⟩, prog_9_method_12_code, 1, (some .boolean), 1, 1, 0, 0)
def m_Tokens_readNumber : zMeth := (⟨"TroupeSums$Tokens", "readNumber", "()V"⟩, prog_9_method_6_code, 2, none, 1, 0, 2, 45)
def m_Tokens_pastDigits : zMeth := (⟨"TroupeSums$Tokens", "pastDigits", "(I)I"⟩, prog_9_method_8_code, 3, (some .int), 1, 1, 1, 21)
def m_Tokens_numberFrom : zMeth := (⟨"TroupeSums$Tokens", "numberFrom", "(II)I"⟩, prog_9_method_9_code, 5, (some .int), 1, 2, 1, 21)
def m_Tokens_isSignByte : zMeth := (⟨"TroupeSums$Tokens", "isSignByte", "(I)Z"⟩, prog_9_method_13_code, 1, (some .boolean), 1, 1, 0, 0)
def m_Reader_readPlaces : zMeth := (⟨"TroupeSums$Reader", "readPlaces", "(LTroupeSums$Troupe;)Z"⟩, prog_6_method_6_code, 2, (some .boolean), 3, 1, 6, 128)
def m_Tokens_isWord : zMeth := (⟨"TroupeSums$Tokens", "isWord", "(Ljava/lang/String;)Z"⟩, prog_9_method_16_code, 3, (some .boolean), 1, 1, 5, 106)
def m_String_length : zMeth := (⟨"java/lang/String", "length", "()I"⟩, prog_16_method_54_code, 1, (some .int), 15, 0, 1, 20)
def m_String_coder : zMeth := (⟨"java/lang/String", "coder", "()B"⟩, prog_16_method_152_code, 1, (some .byte), 15, 0, 0, 0)
def m_String_charAt : zMeth := (⟨"java/lang/String", "charAt", "(I)C"⟩, prog_16_method_56_code, 2, (some .char), 15, 1, 4, 85)
def m_String_isLatin1 : zMeth := (⟨"java/lang/String", "isLatin1", "()Z"⟩, prog_16_method_154_code, 1, (some .boolean), 15, 0, 0, 0)
def m_StringLatin1_charAt : zMeth := (⟨"java/lang/StringLatin1", "charAt", "([BI)C"⟩, prog_17_method_2_code, 2, (some .char), 16, 2, 2, 43)
def m_String_checkIndex : zMeth := (⟨"java/lang/String", "checkIndex", "(II)V"⟩, prog_16_method_155_code, 2, none, 15, 2, 1, 22)
def m_Precond_checkIndex : zMeth := (⟨"jdk/internal/util/Preconditions", "checkIndex", "(IILjava/util/function/BiFunction;)I"⟩, prog_19_method_11_code, 3, (some .int), 17, 3, 0, 0)
def m_Reader_refuse : zMeth := (⟨"TroupeSums$Reader", "refuse", "(I)Z"⟩, prog_6_method_3_code, 2, (some .boolean), 3, 1, 1, 22)
def m_Reader_refuseAt : zMeth := (⟨"TroupeSums$Reader", "refuseAt", "(II)Z"⟩, prog_6_method_4_code, 3, (some .boolean), 3, 2, 0, 0)
def m_Tokens_isNumber : zMeth := (⟨"TroupeSums$Tokens", "isNumber", "()Z"⟩, prog_9_method_14_code, 1, (some .boolean), 1, 0, 0, 0)
def m_Reader_passSign : zMeth := (⟨"TroupeSums$Reader", "passSign", "(I)Z"⟩, prog_6_method_5_code, 2, (some .boolean), 3, 1, 4, 86)
def m_Tokens_isSign : zMeth := (⟨"TroupeSums$Tokens", "isSign", "(I)Z"⟩, prog_9_method_15_code, 2, (some .boolean), 1, 1, 0, 0)
def m_Reader_readMoves : zMeth := (⟨"TroupeSums$Reader", "readMoves", "(LTroupeSums$Troupe;)Z"⟩, prog_6_method_7_code, 5, (some .boolean), 3, 1, 6, 128)
def m_Reader_readMove : zMeth := (⟨"TroupeSums$Reader", "readMove", "(I)I"⟩, prog_6_method_8_code, 6, (some .int), 3, 1, 4, 86)
def m_Group_addMove : zMeth := (⟨"TroupeSums$Group", "addMove", "(I)Z"⟩, prog_3_method_3_code, 2, (some .boolean), 5, 1, 3, 69)
def m_Reader_readLets : zMeth := (⟨"TroupeSums$Reader", "readLets", "(LTroupeSums$Troupe;)Z"⟩, prog_6_method_9_code, 5, (some .boolean), 3, 1, 10, 218)
def m_Tokens_isName : zMeth := (⟨"TroupeSums$Tokens", "isName", "()Z"⟩, prog_9_method_17_code, 1, (some .boolean), 1, 0, 6, 128)
def m_Troupe_nameOf : zMeth := (⟨"TroupeSums$Troupe", "nameOf", "(I)I"⟩, prog_10_method_5_code, 3, (some .int), 4, 1, 1, 21)
def m_Reader_readSum : zMeth := (⟨"TroupeSums$Reader", "readSum", "(LTroupeSums$Troupe;)Z"⟩, prog_6_method_11_code, 5, (some .boolean), 3, 1, 9, 194)
def m_Calc_begin : zMeth := (⟨"TroupeSums$Calculator", "begin", "()V"⟩, prog_2_method_2_code, 1, none, 10, 0, 0, 0)
def m_Reader_readAhead : zMeth := (⟨"TroupeSums$Reader", "readAhead", "(LTroupeSums$Calculator;)Z"⟩, prog_6_method_13_code, 4, (some .boolean), 3, 1, 4, 86)
def m_Reader_countUnit : zMeth := (⟨"TroupeSums$Reader", "countUnit", "(LTroupeSums$Calculator;)Z"⟩, prog_6_method_12_code, 2, (some .boolean), 3, 1, 2, 43)
def m_Calc_open : zMeth := (⟨"TroupeSums$Calculator", "open", "(Z)V"⟩, prog_2_method_7_code, 2, none, 10, 1, 2, 43)
def m_Calc_pushSign : zMeth := (⟨"TroupeSums$Calculator", "pushSign", "(I)V"⟩, prog_2_method_5_code, 2, none, 10, 1, 1, 22)
def m_Reader_readOperand : zMeth := (⟨"TroupeSums$Reader", "readOperand", "(LTroupeSums$Troupe;)Z"⟩, prog_6_method_14_code, 5, (some .boolean), 3, 1, 8, 170)
def m_Reader_readNamed : zMeth := (⟨"TroupeSums$Reader", "readNamed", "(LTroupeSums$Troupe;)Z"⟩, prog_6_method_15_code, 3, (some .boolean), 3, 1, 7, 148)
def m_Calc_pushNamed : zMeth := (⟨"TroupeSums$Calculator", "pushNamed", "(I)V"⟩, prog_2_method_9_code, 2, none, 10, 1, 2, 46)
def m_Calc_nextShelf : zMeth := (⟨"TroupeSums$Calculator", "nextShelf", "()I"⟩, prog_2_method_4_code, 1, (some .int), 10, 0, 1, 20)
def m_Calc_topShelf : zMeth := (⟨"TroupeSums$Calculator", "topShelf", "()I"⟩, prog_2_method_3_code, 1, (some .int), 10, 0, 0, 0)
def m_Sums_copy : zMeth := (⟨"TroupeSums$Sums", "copy", "(II)V"⟩, prog_8_method_5_code, 4, none, 7, 2, 1, 23)
def m_LongRow_at : zMeth := (⟨"TroupeSums$LongRow", "at", "(I)J"⟩, prog_5_method_2_code, 2, (some .long), 8, 1, 0, 0)
def m_Calc_pushSingle : zMeth := (⟨"TroupeSums$Calculator", "pushSingle", "(II)V"⟩, prog_2_method_8_code, 3, none, 10, 2, 2, 48)
def m_Reader_readBehind : zMeth := (⟨"TroupeSums$Reader", "readBehind", "(LTroupeSums$Calculator;)Z"⟩, prog_6_method_16_code, 3, (some .boolean), 3, 1, 4, 99)
def m_Calc_raise : zMeth := (⟨"TroupeSums$Calculator", "raise", "(I)V"⟩, prog_2_method_10_code, 5, none, 10, 1, 3, 75)
def m_Sums_multiply : zMeth := (⟨"TroupeSums$Sums", "multiply", "(II)Z"⟩, prog_8_method_21_code, 8, (some .boolean), 7, 2, 2, 48)
def m_Sums_markOf : zMeth := (⟨"TroupeSums$Sums", "markOf", "(II)J"⟩, prog_8_method_6_code, 6, (some .long), 7, 2, 1, 21)
def m_Sums_solve : zMeth := (⟨"TroupeSums$Sums", "solve", "(I)V"⟩, prog_8_method_8_code, 6, none, 7, 1, 1, 23)
def m_Sums_isInBounds : zMeth := (⟨"TroupeSums$Sums", "isInBounds", "(I)Z"⟩, prog_8_method_18_code, 3, (some .boolean), 7, 1, 2, 46)
def m_Sums_numberAt : zMeth := (⟨"TroupeSums$Sums", "numberAt", "(II)J"⟩, prog_8_method_2_code, 3, (some .long), 7, 2, 1, 21)
def m_Calc_settle : zMeth := (⟨"TroupeSums$Calculator", "settle", "(Z)V"⟩, prog_2_method_11_code, 2, none, 10, 1, 2, 48)
def m_Calc_negate : zMeth := (⟨"TroupeSums$Calculator", "negate", "()V"⟩, prog_2_method_12_code, 1, none, 10, 0, 3, 69)
def m_Calc_topSign : zMeth := (⟨"TroupeSums$Calculator", "topSign", "()I"⟩, prog_2_method_6_code, 1, (some .int), 10, 0, 1, 21)
def m_Sums_putNegative : zMeth := (⟨"TroupeSums$Sums", "putNegative", "(I)V"⟩, prog_8_method_19_code, 3, none, 7, 1, 2, 47)
def m_Sums_putNumber : zMeth := (⟨"TroupeSums$Sums", "putNumber", "(IIJ)V"⟩, prog_8_method_3_code, 5, none, 7, 3, 1, 23)
def m_Calc_reckon : zMeth := (⟨"TroupeSums$Calculator", "reckon", "(Z)V"⟩, prog_2_method_15_code, 5, none, 10, 1, 3, 75)
def m_Sums_add : zMeth := (⟨"TroupeSums$Sums", "add", "(III)V"⟩, prog_8_method_20_code, 5, none, 7, 3, 2, 47)
def m_Calc_close : zMeth := (⟨"TroupeSums$Calculator", "close", "()V"⟩, prog_2_method_14_code, 1, none, 10, 0, 0, 0)
def m_Calc_put : zMeth := (⟨"TroupeSums$Calculator", "put", "(I)V"⟩, prog_2_method_13_code, 2, none, 10, 1, 4, 99)
def m_Troupe_addName : zMeth := (⟨"TroupeSums$Troupe", "addName", "(I)V"⟩, prog_10_method_6_code, 2, none, 4, 1, 2, 46)
def m_T_fault : zMeth := (⟨"TroupeSums", "fault", "(I)I"⟩, prog_1_method_5_code, 2, (some .int), 0, 1, 0, 0)
def m_T_about : zMeth := (⟨"TroupeSums", "about", "(I)I"⟩, prog_1_method_6_code, 2, (some .int), 0, 1, 5, 111)
def m_Group_everyone : zMeth := (⟨"TroupeSums$Group", "everyone", "()I"⟩, prog_3_method_11_code, 1, (some .int), 5, 0, 0, 0)
def m_Group_isCommuting : zMeth := (⟨"TroupeSums$Group", "isCommuting", "(I)Z"⟩, prog_3_method_24_code, 2, (some .boolean), 5, 1, 4, 90)
def m_Group_centreOf : zMeth := (⟨"TroupeSums$Group", "centreOf", "(I)I"⟩, prog_3_method_23_code, 4, (some .int), 5, 1, 3, 67)
def m_Group_commutingWith : zMeth := (⟨"TroupeSums$Group", "commutingWith", "(II)I"⟩, prog_3_method_22_code, 5, (some .int), 5, 2, 2, 43)
def m_T_moves : zMeth := (⟨"TroupeSums", "moves", "(II)I"⟩, prog_1_method_7_code, 4, (some .int), 0, 2, 1, 21)
def m_Group_hasMember : zMeth := (⟨"TroupeSums$Group", "hasMember", "(I)Z"⟩, prog_3_method_8_code, 2, (some .boolean), 5, 1, 0, 0)
def m_Group_hasPlace : zMeth := (⟨"TroupeSums$Group", "hasPlace", "(I)Z"⟩, prog_3_method_9_code, 2, (some .boolean), 5, 1, 0, 0)
def m_T_times : zMeth := (⟨"TroupeSums", "times", "(II)I"⟩, prog_1_method_8_code, 3, (some .int), 0, 2, 2, 43)
def m_T_order : zMeth := (⟨"TroupeSums", "order", "(I)I"⟩, prog_1_method_9_code, 2, (some .int), 0, 1, 3, 66)
def m_Group_repeatsOf : zMeth := (⟨"TroupeSums$Group", "repeatsOf", "(I)I"⟩, prog_3_method_13_code, 4, (some .int), 5, 1, 2, 43)
def m_T_makesOf : zMeth := (⟨"TroupeSums", "makesOf", "(I)I"⟩, prog_1_method_10_code, 2, (some .int), 0, 1, 3, 69)
def m_Group_hasMembers : zMeth := (⟨"TroupeSums$Group", "hasMembers", "(I)Z"⟩, prog_3_method_10_code, 2, (some .boolean), 5, 1, 0, 0)
def m_T_sortOf : zMeth := (⟨"TroupeSums", "sortOf", "(I)I"⟩, prog_1_method_11_code, 2, (some .int), 0, 1, 4, 90)
def m_Sorts_spannedSort : zMeth := (⟨"TroupeSums$Sorts", "spannedSort", "(I)I"⟩, prog_7_method_12_code, 2, (some .int), 6, 1, 3, 69)
def m_T_sort : zMeth := (⟨"TroupeSums", "sort", "(II)I"⟩, prog_1_method_12_code, 5, (some .int), 0, 2, 5, 111)
def m_Sorts_hasSort : zMeth := (⟨"TroupeSums$Sorts", "hasSort", "(I)Z"⟩, prog_7_method_10_code, 2, (some .boolean), 6, 1, 0, 0)
def m_Sorts_countOf : zMeth := (⟨"TroupeSums$Sorts", "countOf", "(I)I"⟩, prog_7_method_13_code, 2, (some .int), 6, 1, 2, 45)
def m_Sorts_countWithin : zMeth := (⟨"TroupeSums$Sorts", "countWithin", "(II)I"⟩, prog_7_method_14_code, 5, (some .int), 6, 2, 1, 21)
def m_Group_normOf : zMeth := (⟨"TroupeSums$Group", "normOf", "(I)I"⟩, prog_3_method_18_code, 4, (some .int), 5, 1, 3, 68)
def m_Group_isMadeByOne : zMeth := (⟨"TroupeSums$Group", "isMadeByOne", "(I)Z"⟩, prog_3_method_25_code, 4, (some .boolean), 5, 1, 3, 66)
def m_T_within : zMeth := (⟨"TroupeSums", "within", "(II)I"⟩, prog_1_method_13_code, 3, (some .int), 0, 2, 2, 45)
def m_T_mark : zMeth := (⟨"TroupeSums", "mark", "(II)I"⟩, prog_1_method_14_code, 3, (some .int), 0, 2, 2, 43)
def m_T_product : zMeth := (⟨"TroupeSums", "product", "(III)I"⟩, prog_1_method_15_code, 5, (some .int), 0, 3, 3, 71)
def m_Sums_putProduct : zMeth := (⟨"TroupeSums$Sums", "putProduct", "(II)V"⟩, prog_8_method_9_code, 4, none, 7, 2, 2, 48)
def m_T_residue : zMeth := (⟨"TroupeSums", "residue", "(II)I"⟩, prog_1_method_16_code, 3, (some .int), 0, 2, 5, 116)
def m_T_isPrime : zMeth := (⟨"TroupeSums", "isPrime", "(I)Z"⟩, prog_1_method_50_code, 1, (some .boolean), 0, 1, 0, 0)
def m_Sorts_residueOf : zMeth := (⟨"TroupeSums$Sorts", "residueOf", "(II)I"⟩, prog_7_method_16_code, 6, (some .int), 6, 2, 4, 91)
def m_Sorts_isPowerApart : zMeth := (⟨"TroupeSums$Sorts", "isPowerApart", "(III)Z"⟩, prog_7_method_17_code, 4, (some .boolean), 6, 3, 0, 0)
def m_T_block : zMeth := (⟨"TroupeSums", "block", "(II)I"⟩, prog_1_method_17_code, 3, (some .int), 0, 2, 6, 141)
def m_Sorts_blockOf : zMeth := (⟨"TroupeSums$Sorts", "blockOf", "(II)I"⟩, prog_7_method_18_code, 6, (some .int), 6, 2, 5, 116)
def m_T_keeper : zMeth := (⟨"TroupeSums", "keeper", "(I)I"⟩, prog_1_method_18_code, 2, (some .int), 0, 1, 2, 44)
def m_Group_keepersOf : zMeth := (⟨"TroupeSums$Group", "keepersOf", "(I)I"⟩, prog_3_method_27_code, 4, (some .int), 5, 1, 1, 21)
def m_T_orbit : zMeth := (⟨"TroupeSums", "orbit", "(I)I"⟩, prog_1_method_19_code, 2, (some .int), 0, 1, 3, 66)
def m_Group_reachOf : zMeth := (⟨"TroupeSums$Group", "reachOf", "(I)I"⟩, prog_3_method_28_code, 2, (some .int), 5, 1, 2, 45)
def m_Group_placesReached : zMeth := (⟨"TroupeSums$Group", "placesReached", "(II)I"⟩, prog_3_method_29_code, 5, (some .int), 5, 2, 1, 21)
def m_T_coset : zMeth := (⟨"TroupeSums", "coset", "(II)I"⟩, prog_1_method_20_code, 3, (some .int), 0, 2, 3, 67)
def m_Group_leastOfCoset : zMeth := (⟨"TroupeSums$Group", "leastOfCoset", "(II)I"⟩, prog_3_method_20_code, 5, (some .int), 5, 2, 2, 43)
def m_T_takes : zMeth := (⟨"TroupeSums", "takes", "(III)I"⟩, prog_1_method_21_code, 4, (some .int), 0, 3, 3, 67)
def m_T_moebius : zMeth := (⟨"TroupeSums", "moebius", "(I)I"⟩, prog_1_method_22_code, 2, (some .int), 0, 1, 2, 47)
def m_Sorts_moebiusOf : zMeth := (⟨"TroupeSums$Sorts", "moebiusOf", "(I)I"⟩, prog_7_method_19_code, 6, (some .int), 6, 1, 1, 22)
def m_T_mixed : zMeth := (⟨"TroupeSums", "mixed", "(I)I"⟩, prog_1_method_23_code, 2, (some .int), 0, 1, 4, 90)
def m_Group_mixturesOf : zMeth := (⟨"TroupeSums$Group", "mixturesOf", "(I)I"⟩, prog_3_method_26_code, 6, (some .int), 5, 1, 2, 43)
def m_T_centre : zMeth := (⟨"TroupeSums", "centre", "(I)I"⟩, prog_1_method_24_code, 2, (some .int), 0, 1, 4, 90)
def m_T_pairs : zMeth := (⟨"TroupeSums", "pairs", "(II)I"⟩, prog_1_method_25_code, 3, (some .int), 0, 2, 3, 71)
def m_Sums_totalOfWork : zMeth := (⟨"TroupeSums$Sums", "totalOfWork", "()I"⟩, prog_8_method_13_code, 4, (some .int), 7, 0, 2, 43)
def m_T_alike : zMeth := (⟨"TroupeSums", "alike", "()I"⟩, prog_1_method_26_code, 1, (some .int), 0, 0, 4, 89)
def m_Group_commutingPairs : zMeth := (⟨"TroupeSums$Group", "commutingPairs", "()I"⟩, prog_3_method_21_code, 3, (some .int), 5, 0, 3, 67)
def m_T_meet : zMeth := (⟨"TroupeSums", "meet", "(II)I"⟩, prog_1_method_27_code, 4, (some .int), 0, 2, 4, 90)
def m_T_join : zMeth := (⟨"TroupeSums", "join", "(II)I"⟩, prog_1_method_28_code, 4, (some .int), 0, 2, 4, 90)
def m_T_orders : zMeth := (⟨"TroupeSums", "orders", "(I)I"⟩, prog_1_method_29_code, 2, (some .int), 0, 1, 4, 89)
def m_Group_countRepeating : zMeth := (⟨"TroupeSums$Group", "countRepeating", "(I)I"⟩, prog_3_method_14_code, 4, (some .int), 5, 1, 3, 66)
def m_T_likes : zMeth := (⟨"TroupeSums", "likes", "(I)I"⟩, prog_1_method_30_code, 2, (some .int), 0, 1, 3, 67)
def m_Group_countLike : zMeth := (⟨"TroupeSums$Group", "countLike", "(I)I"⟩, prog_3_method_19_code, 4, (some .int), 5, 1, 2, 44)
def m_T_peak : zMeth := (⟨"TroupeSums", "peak", "(III)I"⟩, prog_1_method_31_code, 4, (some .int), 0, 3, 4, 97)
def m_T_peakPart : zMeth := (⟨"TroupeSums", "peakPart", "(III)I"⟩, prog_1_method_48_code, 7, (some .int), 0, 3, 3, 71)
def m_Sums_putScaled : zMeth := (⟨"TroupeSums$Sums", "putScaled", "(II)V"⟩, prog_8_method_10_code, 4, none, 7, 2, 2, 48)
def m_T_greatestDivisor : zMeth := (⟨"TroupeSums", "greatestDivisor", "(II)I"⟩, prog_1_method_49_code, 6, (some .int), 0, 2, 0, 0)
def m_T_local : zMeth := (⟨"TroupeSums", "local", "(IIII)I"⟩, prog_1_method_32_code, 5, (some .int), 0, 4, 6, 141)
def m_T_units : zMeth := (⟨"TroupeSums", "units", "()I"⟩, prog_1_method_33_code, 1, (some .int), 0, 0, 6, 140)
def m_Units_seek : zMeth := (⟨"TroupeSums$Units", "seek", "()V"⟩, prog_11_method_4_code, 2, none, 9, 0, 5, 119)
def m_Units_narrowAt : zMeth := (⟨"TroupeSums$Units", "narrowAt", "(I)V"⟩, prog_11_method_6_code, 9, none, 9, 1, 4, 91)
def m_Units_bitOf : zMeth := (⟨"TroupeSums$Units", "bitOf", "(I)I"⟩, prog_11_method_5_code, 2, (some .int), 9, 1, 0, 0)
def m_Units_narrow : zMeth := (⟨"TroupeSums$Units", "narrow", "(I)V"⟩, prog_11_method_7_code, 4, none, 9, 1, 1, 22)
def m_Units_straighten : zMeth := (⟨"TroupeSums$Units", "straighten", "()V"⟩, prog_11_method_8_code, 6, none, 9, 0, 1, 22)
def m_Units_total : zMeth := (⟨"TroupeSums$Units", "total", "()I"⟩, prog_11_method_3_code, 1, (some .int), 9, 0, 0, 0)
def m_T_unit : zMeth := (⟨"TroupeSums", "unit", "(II)I"⟩, prog_1_method_34_code, 3, (some .int), 0, 2, 6, 140)
def m_Units_signsOf : zMeth := (⟨"TroupeSums$Units", "signsOf", "(I)I"⟩, prog_11_method_9_code, 5, (some .int), 9, 1, 1, 21)
def m_Sums_putSigns : zMeth := (⟨"TroupeSums$Sums", "putSigns", "(I)V"⟩, prog_8_method_11_code, 3, none, 7, 1, 2, 48)
def m_T_named : zMeth := (⟨"TroupeSums", "named", "(II)J"⟩, prog_1_method_35_code, 3, (some .long), 0, 2, 2, 43)
def m_Troupe_hasName : zMeth := (⟨"TroupeSums$Troupe", "hasName", "(I)Z"⟩, prog_10_method_4_code, 2, (some .boolean), 4, 1, 0, 0)
def m_T_has : zMeth := (⟨"TroupeSums", "has", "(I)J"⟩, prog_1_method_36_code, 2, (some .long), 0, 1, 2, 43)
def m_T_marked : zMeth := (⟨"TroupeSums", "marked", "(I)J"⟩, prog_1_method_37_code, 2, (some .long), 0, 1, 2, 46)
def m_T_character : zMeth := (⟨"TroupeSums", "character", "(I)J"⟩, prog_1_method_38_code, 2, (some .long), 0, 1, 4, 90)
def m_T_parts : zMeth := (⟨"TroupeSums", "parts", "()I"⟩, prog_1_method_39_code, 1, (some .int), 0, 0, 3, 66)
def m_Sums_partsOf : zMeth := (⟨"TroupeSums$Sums", "partsOf", "(I)I"⟩, prog_8_method_14_code, 4, (some .int), 7, 1, 2, 43)
def m_T_congruence : zMeth := (⟨"TroupeSums", "congruence", "(I)J"⟩, prog_1_method_40_code, 5, (some .long), 0, 1, 5, 118)
def m_Sums_putMarks : zMeth := (⟨"TroupeSums$Sums", "putMarks", "(I)V"⟩, prog_8_method_7_code, 3, none, 7, 1, 2, 46)
def m_Sorts_normSize : zMeth := (⟨"TroupeSums$Sorts", "normSize", "(I)I"⟩, prog_7_method_15_code, 2, (some .int), 6, 1, 4, 91)
def m_Sorts_sumOverNorm : zMeth := (⟨"TroupeSums$Sorts", "sumOverNorm", "(ILTroupeSums$LongRow;)J"⟩, prog_7_method_20_code, 8, (some .long), 6, 2, 4, 91)
def m_T_is : zMeth := (⟨"TroupeSums", "is", "(I)I"⟩, prog_1_method_41_code, 3, (some .int), 0, 1, 3, 68)
def m_Sums_hasNoneBelow : zMeth := (⟨"TroupeSums$Sums", "hasNoneBelow", "(I)Z"⟩, prog_8_method_15_code, 3, (some .boolean), 7, 1, 2, 43)
def m_Sums_marksAre : zMeth := (⟨"TroupeSums$Sums", "marksAre", "(II)Z"⟩, prog_8_method_16_code, 4, (some .boolean), 7, 2, 1, 21)
def m_Sums_hasMarkNought : zMeth := (⟨"TroupeSums$Sums", "hasMarkNought", "()Z"⟩, prog_8_method_17_code, 2, (some .boolean), 7, 0, 1, 21)
def m_T_makes : zMeth := (⟨"TroupeSums", "makes", "()I"⟩, prog_1_method_42_code, 2, (some .int), 0, 0, 11, 239)
def m_Reader_readWhole : zMeth := (⟨"TroupeSums$Reader", "readWhole", "(LTroupeSums$Troupe;)Z"⟩, prog_6_method_10_code, 2, (some .boolean), 3, 1, 10, 218)
def m_Troupe_become : zMeth := (⟨"TroupeSums$Troupe", "become", "(I)V"⟩, prog_10_method_7_code, 2, none, 4, 1, 2, 46)
def m_T_take : zMeth := (⟨"TroupeSums", "take", "(II)I"⟩, prog_1_method_43_code, 5, (some .int), 0, 2, 5, 119)
def m_Group_countKept : zMeth := (⟨"TroupeSums$Group", "countKept", "(III)I"⟩, prog_3_method_30_code, 8, (some .int), 5, 3, 4, 92)
def m_Group_countSetsKept : zMeth := (⟨"TroupeSums$Group", "countSetsKept", "(II)I"⟩, prog_3_method_31_code, 5, (some .int), 5, 2, 3, 68)
def m_Group_isSetKept : zMeth := (⟨"TroupeSums$Group", "isSetKept", "(II)Z"⟩, prog_3_method_32_code, 4, (some .boolean), 5, 2, 2, 45)
def m_Group_power : zMeth := (⟨"TroupeSums$Group", "power", "(II)I"⟩, prog_3_method_33_code, 4, (some .int), 5, 2, 0, 0)
def m_T_marks : zMeth := (⟨"TroupeSums", "marks", "()I"⟩, prog_1_method_44_code, 3, (some .int), 0, 0, 6, 141)
def m_Reader_readRow : zMeth := (⟨"TroupeSums$Reader", "readRow", "(LTroupeSums$LongRow;I)Z"⟩, prog_6_method_17_code, 10, (some .boolean), 3, 2, 2, 45)
def m_Sorts_firstIncongruent : zMeth := (⟨"TroupeSums$Sorts", "firstIncongruent", "(LTroupeSums$LongRow;)I"⟩, prog_7_method_21_code, 4, (some .int), 6, 1, 5, 118)
def m_T_uses : zMeth := (⟨"TroupeSums", "uses", "(I)I"⟩, prog_1_method_45_code, 2, (some .int), 0, 1, 3, 67)
def m_T_grows : zMeth := (⟨"TroupeSums", "grows", "(III)J"⟩, prog_1_method_46_code, 4, (some .long), 0, 3, 3, 71)
def m_Sums_putGrown : zMeth := (⟨"TroupeSums$Sums", "putGrown", "(III)V"⟩, prog_8_method_12_code, 5, none, 7, 3, 2, 47)
def m_T_undo : zMeth := (⟨"TroupeSums", "undo", "()I"⟩, prog_1_method_47_code, 1, (some .int), 0, 0, 3, 66)
def m_Troupe_takeBack : zMeth := (⟨"TroupeSums$Troupe", "takeBack", "()I"⟩, prog_10_method_8_code, 1, (some .int), 4, 0, 2, 46)
def m_M_init : zMeth := (⟨"TroupeSumsModel", "<init>", "()V"⟩, prog_13_method_1_code, 1, none, 11, 0, 4, 93)
def m_M_builds : zMeth := (⟨"TroupeSumsModel", "builds", "()V"⟩, prog_13_method_31_code, 4, none, 11, 0, 3, 70)
def m_M_buildsMembers : zMeth := (⟨"TroupeSumsModel", "buildsMembers", "()Z"⟩, prog_13_method_25_code, 4, (some .boolean), 11, 0, 1, 24)
def m_M_indexOf : zMeth := (⟨"TroupeSumsModel", "indexOf", "()I"⟩, prog_13_method_22_code, 4, (some .int), 11, 0, 0, 0)
def m_M_isBehind : zMeth := (⟨"TroupeSumsModel", "isBehind", "(II)Z"⟩, prog_13_method_23_code, 4, (some .boolean), 11, 2, 0, 0)
def m_M_exchanges : zMeth := (⟨"TroupeSumsModel", "exchanges", "(II)V"⟩, prog_13_method_24_code, 5, none, 11, 2, 0, 0)
def m_M_holds : zMeth := (⟨"TroupeSumsModel", "holds", "(II)Z"⟩, prog_13_method_4_code, 2, (some .boolean), 11, 2, 0, 0)
def m_M_closed : zMeth := (⟨"TroupeSumsModel", "closed", "(I)I"⟩, prog_13_method_27_code, 6, (some .int), 11, 1, 1, 22)
def m_M_by : zMeth := (⟨"TroupeSumsModel", "by", "(II)I"⟩, prog_13_method_26_code, 3, (some .int), 11, 2, 0, 0)
def m_M_subIndex : zMeth := (⟨"TroupeSumsModel", "subIndex", "(I)I"⟩, prog_13_method_29_code, 3, (some .int), 11, 1, 0, 0)
def m_M_leastTurned : zMeth := (⟨"TroupeSumsModel", "leastTurned", "(I)I"⟩, prog_13_method_30_code, 5, (some .int), 11, 1, 2, 46)
def m_M_turned : zMeth := (⟨"TroupeSumsModel", "turned", "(II)I"⟩, prog_13_method_28_code, 5, (some .int), 11, 2, 1, 22)
def m_M_comesSort : zMeth := (⟨"TroupeSumsModel", "comesSort", "(I)V"⟩, prog_13_method_32_code, 3, none, 11, 1, 1, 22)
def m_M_ones : zMeth := (⟨"TroupeSumsModel", "ones", "(I)I"⟩, prog_13_method_5_code, 3, (some .int), 11, 1, 0, 0)
def m_M_sortOfFirst : zMeth := (⟨"TroupeSumsModel", "sortOfFirst", "(I)I"⟩, prog_13_method_33_code, 3, (some .int), 11, 1, 0, 0)
def m_M_leastOf : zMeth := (⟨"TroupeSumsModel", "leastOf", "(II)I"⟩, prog_13_method_34_code, 5, (some .int), 11, 2, 1, 22)
def m_M_fixedOf : zMeth := (⟨"TroupeSumsModel", "fixedOf", "(II)I"⟩, prog_13_method_35_code, 7, (some .int), 11, 2, 1, 22)
def m_M_truth : zMeth := (⟨"TroupeSumsModel", "truth", "(Z)I"⟩, prog_13_method_3_code, 1, (some .int), 11, 1, 0, 0)
def m_M_inForce : zMeth := (⟨"TroupeSumsModel", "inForce", "()V"⟩, prog_13_method_65_code, 2, none, 11, 0, 0, 0)
def m_M_feed : zMeth := (⟨"TroupeSumsModel", "feed", "(IIIII)I"⟩, prog_13_method_6_code, 6, (some .int), 11, 5, 1, 22)
def m_M_four : zMeth := (⟨"TroupeSumsModel", "four", "(I)V"⟩, prog_13_method_7_code, 3, none, 11, 1, 0, 0)
def m_M_end : zMeth := (⟨"TroupeSumsModel", "end", "(I)I"⟩, prog_13_method_8_code, 2, (some .int), 11, 1, 1, 25)
def m_M_isIn : zMeth := (⟨"TroupeSumsModel", "isIn", "(JJJ)Z"⟩, prog_13_method_2_code, 6, (some .boolean), 11, 3, 0, 0)
def m_M_troupe : zMeth := (⟨"TroupeSumsModel", "troupe", "()I"⟩, prog_13_method_62_code, 1, (some .int), 11, 0, 10, 221)
def m_M_begins : zMeth := (⟨"TroupeSumsModel", "begins", "()V"⟩, prog_13_method_63_code, 1, none, 11, 0, 2, 43)
def m_M_goOn : zMeth := (⟨"TroupeSumsModel", "goOn", "()V"⟩, prog_13_method_13_code, 3, none, 11, 0, 1, 21)
def m_M_here : zMeth := (⟨"TroupeSumsModel", "here", "(I)I"⟩, prog_13_method_9_code, 2, (some .int), 11, 1, 0, 0)
def m_M_isLetter : zMeth := (⟨"TroupeSumsModel", "isLetter", "(I)Z"⟩, prog_13_method_10_code, 1, (some .boolean), 11, 1, 0, 0)
def m_M_isDigit : zMeth := (⟨"TroupeSumsModel", "isDigit", "(I)Z"⟩, prog_13_method_11_code, 1, (some .boolean), 11, 1, 0, 0)
def m_M_isSign : zMeth := (⟨"TroupeSumsModel", "isSign", "(I)Z"⟩, prog_13_method_12_code, 1, (some .boolean), 11, 1, 0, 0)
def m_M_reads : zMeth := (⟨"TroupeSumsModel", "reads", "()V"⟩, prog_13_method_61_code, 1, none, 11, 0, 9, 201)
def m_M_isWord : zMeth := (⟨"TroupeSumsModel", "isWord", "(J)Z"⟩, prog_13_method_17_code, 3, (some .boolean), 11, 1, 0, 0)
def m_M_wrong : zMeth := (⟨"TroupeSumsModel", "wrong", "(I)V"⟩, prog_13_method_14_code, 2, none, 11, 1, 1, 22)
def m_M_wrongAt : zMeth := (⟨"TroupeSumsModel", "wrongAt", "(II)V"⟩, prog_13_method_15_code, 3, none, 11, 2, 0, 0)
def m_M_isGood : zMeth := (⟨"TroupeSumsModel", "isGood", "()Z"⟩, prog_13_method_16_code, 1, (some .boolean), 11, 0, 0, 0)
def m_M_number : zMeth := (⟨"TroupeSumsModel", "number", "(II)I"⟩, prog_13_method_21_code, 4, (some .int), 11, 2, 2, 43)
def m_M_must : zMeth := (⟨"TroupeSumsModel", "must", "(I)V"⟩, prog_13_method_20_code, 2, none, 11, 1, 2, 43)
def m_M_isSignHere : zMeth := (⟨"TroupeSumsModel", "isSignHere", "(I)Z"⟩, prog_13_method_18_code, 2, (some .boolean), 11, 1, 0, 0)
def m_M_moveLine : zMeth := (⟨"TroupeSumsModel", "moveLine", "()V"⟩, prog_13_method_59_code, 5, none, 11, 0, 3, 64)
def m_M_letLine : zMeth := (⟨"TroupeSumsModel", "letLine", "()V"⟩, prog_13_method_60_code, 5, none, 11, 0, 8, 177)
def m_M_isName : zMeth := (⟨"TroupeSumsModel", "isName", "()Z"⟩, prog_13_method_19_code, 1, (some .boolean), 11, 0, 0, 0)
def m_M_nameAt : zMeth := (⟨"TroupeSumsModel", "nameAt", "()I"⟩, prog_13_method_51_code, 2, (some .int), 11, 0, 0, 0)
def m_M_formula : zMeth := (⟨"TroupeSumsModel", "formula", "()V"⟩, prog_13_method_58_code, 2, none, 11, 0, 7, 156)
def m_M_operand : zMeth := (⟨"TroupeSumsModel", "operand", "()Z"⟩, prog_13_method_52_code, 3, (some .boolean), 11, 0, 4, 95)
def m_M_countsUnit : zMeth := (⟨"TroupeSumsModel", "countsUnit", "()V"⟩, prog_13_method_50_code, 1, none, 11, 0, 2, 43)
def m_M_lays : zMeth := (⟨"TroupeSumsModel", "lays", "(IJ)V"⟩, prog_13_method_42_code, 5, none, 11, 2, 3, 71)
def m_M_looks : zMeth := (⟨"TroupeSumsModel", "looks", "()V"⟩, prog_13_method_41_code, 2, none, 11, 0, 2, 50)
def m_M_isFit : zMeth := (⟨"TroupeSumsModel", "isFit", "([JI)Z"⟩, prog_13_method_40_code, 5, (some .boolean), 11, 2, 1, 26)
def m_M_markAt : zMeth := (⟨"TroupeSumsModel", "markAt", "([JII)J"⟩, prog_13_method_39_code, 7, (some .long), 11, 3, 0, 0)
def m_M_closes : zMeth := (⟨"TroupeSumsModel", "closes", "()V"⟩, prog_13_method_53_code, 2, none, 11, 0, 4, 93)
def m_M_powers : zMeth := (⟨"TroupeSumsModel", "powers", "(I)V"⟩, prog_13_method_48_code, 3, none, 11, 1, 3, 71)
def m_M_marksOf : zMeth := (⟨"TroupeSumsModel", "marksOf", "(I[J)V"⟩, prog_13_method_45_code, 4, none, 11, 2, 1, 26)
def m_M_multiplies : zMeth := (⟨"TroupeSumsModel", "multiplies", "()V"⟩, prog_13_method_44_code, 6, none, 11, 0, 0, 0)
def m_M_numbers : zMeth := (⟨"TroupeSumsModel", "numbers", "([J[JI)V"⟩, prog_13_method_43_code, 8, none, 11, 3, 0, 0)
def m_M_negates : zMeth := (⟨"TroupeSumsModel", "negates", "()V"⟩, prog_13_method_49_code, 2, none, 11, 0, 0, 0)
def m_M_goesOn : zMeth := (⟨"TroupeSumsModel", "goesOn", "()Z"⟩, prog_13_method_56_code, 1, (some .boolean), 11, 0, 6, 136)
def m_M_waitsFor : zMeth := (⟨"TroupeSumsModel", "waitsFor", "(I)V"⟩, prog_13_method_55_code, 2, none, 11, 1, 5, 115)
def m_M_works : zMeth := (⟨"TroupeSumsModel", "works", "(I)V"⟩, prog_13_method_54_code, 3, none, 11, 1, 4, 93)
def m_M_timesTwo : zMeth := (⟨"TroupeSumsModel", "timesTwo", "()V"⟩, prog_13_method_47_code, 1, none, 11, 0, 3, 71)
def m_M_adds : zMeth := (⟨"TroupeSumsModel", "adds", "(I)V"⟩, prog_13_method_46_code, 3, none, 11, 1, 3, 71)
def m_M_isOpen : zMeth := (⟨"TroupeSumsModel", "isOpen", "()Z"⟩, prog_13_method_57_code, 2, (some .boolean), 11, 0, 0, 0)
def m_M_tells : zMeth := (⟨"TroupeSumsModel", "tells", "()V"⟩, prog_13_method_64_code, 1, none, 11, 0, 0, 0)
def m_M_goesBack : zMeth := (⟨"TroupeSumsModel", "goesBack", "()V"⟩, prog_13_method_66_code, 2, none, 11, 0, 4, 93)
def m_M_fault : zMeth := (⟨"TroupeSumsModel", "fault", "(I)I"⟩, prog_13_method_67_code, 2, (some .int), 11, 1, 0, 0)
def m_M_about : zMeth := (⟨"TroupeSumsModel", "about", "(I)I"⟩, prog_13_method_68_code, 2, (some .int), 11, 1, 2, 45)
def m_M_areAlike : zMeth := (⟨"TroupeSumsModel", "areAlike", "(I)Z"⟩, prog_13_method_69_code, 4, (some .boolean), 11, 1, 1, 22)
def m_M_moves : zMeth := (⟨"TroupeSumsModel", "moves", "(II)I"⟩, prog_13_method_70_code, 3, (some .int), 11, 2, 2, 46)
def m_M_isMember : zMeth := (⟨"TroupeSumsModel", "isMember", "(I)Z"⟩, prog_13_method_38_code, 2, (some .boolean), 11, 1, 1, 25)
def m_M_times : zMeth := (⟨"TroupeSumsModel", "times", "(II)I"⟩, prog_13_method_71_code, 3, (some .int), 11, 2, 2, 46)
def m_M_order : zMeth := (⟨"TroupeSumsModel", "order", "(I)I"⟩, prog_13_method_73_code, 2, (some .int), 11, 1, 2, 46)
def m_M_timesOf : zMeth := (⟨"TroupeSumsModel", "timesOf", "(I)I"⟩, prog_13_method_72_code, 4, (some .int), 11, 1, 1, 22)
def m_M_orders : zMeth := (⟨"TroupeSumsModel", "orders", "(I)I"⟩, prog_13_method_74_code, 4, (some .int), 11, 1, 2, 45)
def m_M_alike : zMeth := (⟨"TroupeSumsModel", "alike", "()I"⟩, prog_13_method_75_code, 4, (some .int), 11, 0, 1, 22)
def m_M_makesOf : zMeth := (⟨"TroupeSumsModel", "makesOf", "(I)I"⟩, prog_13_method_77_code, 2, (some .int), 11, 1, 2, 47)
def m_M_areMembers : zMeth := (⟨"TroupeSumsModel", "areMembers", "(I)Z"⟩, prog_13_method_76_code, 2, (some .boolean), 11, 1, 1, 25)
def m_M_sortOf : zMeth := (⟨"TroupeSumsModel", "sortOf", "(I)I"⟩, prog_13_method_78_code, 2, (some .int), 11, 1, 2, 47)
def m_M_sortOfSet : zMeth := (⟨"TroupeSumsModel", "sortOfSet", "(I)I"⟩, prog_13_method_36_code, 2, (some .int), 11, 1, 1, 22)
def m_M_sort : zMeth := (⟨"TroupeSumsModel", "sort", "(II)I"⟩, prog_13_method_81_code, 3, (some .int), 11, 2, 3, 69)
def m_M_isSort : zMeth := (⟨"TroupeSumsModel", "isSort", "(I)Z"⟩, prog_13_method_37_code, 2, (some .boolean), 11, 1, 1, 25)
def m_M_normOf : zMeth := (⟨"TroupeSumsModel", "normOf", "(I)I"⟩, prog_13_method_79_code, 4, (some .int), 11, 1, 2, 46)
def m_M_isOfOne : zMeth := (⟨"TroupeSumsModel", "isOfOne", "(I)Z"⟩, prog_13_method_80_code, 3, (some .boolean), 11, 1, 2, 47)
def m_M_meet : zMeth := (⟨"TroupeSumsModel", "meet", "(II)I"⟩, prog_13_method_82_code, 3, (some .int), 11, 2, 2, 46)
def m_M_join : zMeth := (⟨"TroupeSumsModel", "join", "(II)I"⟩, prog_13_method_83_code, 3, (some .int), 11, 2, 2, 47)
def m_M_within : zMeth := (⟨"TroupeSumsModel", "within", "(II)I"⟩, prog_13_method_84_code, 5, (some .int), 11, 2, 2, 46)
def m_M_mark : zMeth := (⟨"TroupeSumsModel", "mark", "(II)I"⟩, prog_13_method_85_code, 3, (some .int), 11, 2, 2, 46)
def m_M_product : zMeth := (⟨"TroupeSumsModel", "product", "(III)I"⟩, prog_13_method_87_code, 4, (some .int), 11, 3, 2, 50)
def m_M_worksProduct : zMeth := (⟨"TroupeSumsModel", "worksProduct", "(II)V"⟩, prog_13_method_86_code, 4, none, 11, 2, 1, 27)
def m_M_pairs : zMeth := (⟨"TroupeSumsModel", "pairs", "(II)I"⟩, prog_13_method_88_code, 6, (some .int), 11, 2, 2, 50)
def m_M_residue : zMeth := (⟨"TroupeSumsModel", "residue", "(II)I"⟩, prog_13_method_91_code, 3, (some .int), 11, 2, 3, 74)
def m_M_isPrime : zMeth := (⟨"TroupeSumsModel", "isPrime", "(I)Z"⟩, prog_13_method_89_code, 1, (some .boolean), 11, 1, 0, 0)
def m_M_residueOf : zMeth := (⟨"TroupeSumsModel", "residueOf", "(II)I"⟩, prog_13_method_90_code, 9, (some .int), 11, 2, 2, 46)
def m_M_block : zMeth := (⟨"TroupeSumsModel", "block", "(II)I"⟩, prog_13_method_93_code, 3, (some .int), 11, 2, 4, 99)
def m_M_blockOf : zMeth := (⟨"TroupeSumsModel", "blockOf", "(II)I"⟩, prog_13_method_92_code, 6, (some .int), 11, 2, 3, 74)
def m_M_keeper : zMeth := (⟨"TroupeSumsModel", "keeper", "(I)I"⟩, prog_13_method_94_code, 4, (some .int), 11, 1, 1, 25)
def m_M_orbit : zMeth := (⟨"TroupeSumsModel", "orbit", "(I)I"⟩, prog_13_method_95_code, 4, (some .int), 11, 1, 1, 25)
def m_M_coset : zMeth := (⟨"TroupeSumsModel", "coset", "(II)I"⟩, prog_13_method_96_code, 3, (some .int), 11, 2, 2, 46)
def m_M_takes : zMeth := (⟨"TroupeSumsModel", "takes", "(III)I"⟩, prog_13_method_97_code, 4, (some .int), 11, 3, 2, 46)
def m_M_moebius : zMeth := (⟨"TroupeSumsModel", "moebius", "(I)I"⟩, prog_13_method_98_code, 5, (some .int), 11, 1, 2, 46)
def m_M_mixed : zMeth := (⟨"TroupeSumsModel", "mixed", "(I)I"⟩, prog_13_method_99_code, 5, (some .int), 11, 1, 2, 47)
def m_M_centre : zMeth := (⟨"TroupeSumsModel", "centre", "(I)I"⟩, prog_13_method_100_code, 6, (some .int), 11, 1, 2, 46)
def m_M_likes : zMeth := (⟨"TroupeSumsModel", "likes", "(I)I"⟩, prog_13_method_101_code, 4, (some .int), 11, 1, 2, 46)
def m_M_peak : zMeth := (⟨"TroupeSumsModel", "peak", "(III)I"⟩, prog_13_method_105_code, 4, (some .int), 11, 3, 3, 87)
def m_M_peaks : zMeth := (⟨"TroupeSumsModel", "peaks", "(I)V"⟩, prog_13_method_104_code, 9, none, 11, 1, 2, 59)
def m_M_sumWith : zMeth := (⟨"TroupeSumsModel", "sumWith", "(JJ)V"⟩, prog_13_method_103_code, 11, none, 11, 2, 1, 29)
def m_M_divisor : zMeth := (⟨"TroupeSumsModel", "divisor", "(JJ)J"⟩, prog_13_method_102_code, 10, (some .long), 11, 2, 0, 0)
def m_M_local : zMeth := (⟨"TroupeSumsModel", "local", "(IIII)I"⟩, prog_13_method_106_code, 11, (some .int), 11, 4, 4, 99)
def m_M_units : zMeth := (⟨"TroupeSumsModel", "units", "()I"⟩, prog_13_method_111_code, 1, (some .int), 11, 0, 5, 118)
def m_M_laysUnits : zMeth := (⟨"TroupeSumsModel", "laysUnits", "()V"⟩, prog_13_method_110_code, 6, none, 11, 0, 4, 93)
def m_M_laysMade : zMeth := (⟨"TroupeSumsModel", "laysMade", "(I)V"⟩, prog_13_method_107_code, 5, none, 11, 1, 3, 69)
def m_M_isUnitAt : zMeth := (⟨"TroupeSumsModel", "isUnitAt", "(II)Z"⟩, prog_13_method_109_code, 5, (some .boolean), 11, 2, 1, 21)
def m_M_unit : zMeth := (⟨"TroupeSumsModel", "unit", "(II)I"⟩, prog_13_method_112_code, 4, (some .int), 11, 2, 5, 118)
def m_M_undo : zMeth := (⟨"TroupeSumsModel", "undo", "()I"⟩, prog_13_method_114_code, 2, (some .int), 11, 0, 0, 0)
def m_M_named : zMeth := (⟨"TroupeSumsModel", "named", "(II)J"⟩, prog_13_method_116_code, 3, (some .long), 11, 2, 2, 46)
def m_M_has : zMeth := (⟨"TroupeSumsModel", "has", "(I)J"⟩, prog_13_method_117_code, 2, (some .long), 11, 1, 2, 46)
def m_M_marked : zMeth := (⟨"TroupeSumsModel", "marked", "(I)J"⟩, prog_13_method_118_code, 2, (some .long), 11, 1, 2, 46)
def m_M_character : zMeth := (⟨"TroupeSumsModel", "character", "(I)J"⟩, prog_13_method_119_code, 2, (some .long), 11, 1, 2, 47)
def m_M_parts : zMeth := (⟨"TroupeSumsModel", "parts", "()I"⟩, prog_13_method_120_code, 3, (some .int), 11, 0, 1, 20)
def m_M_congruence : zMeth := (⟨"TroupeSumsModel", "congruence", "(I)J"⟩, prog_13_method_121_code, 2, (some .long), 11, 1, 5, 118)
def m_M_laysMarks : zMeth := (⟨"TroupeSumsModel", "laysMarks", "()V"⟩, prog_13_method_115_code, 2, none, 11, 0, 1, 26)
def m_M_congruenceOf : zMeth := (⟨"TroupeSumsModel", "congruenceOf", "([JI)J"⟩, prog_13_method_108_code, 6, (some .long), 11, 2, 4, 93)
def m_M_is : zMeth := (⟨"TroupeSumsModel", "is", "(I)I"⟩, prog_13_method_122_code, 8, (some .int), 11, 1, 2, 47)
def m_M_makes : zMeth := (⟨"TroupeSumsModel", "makes", "()I"⟩, prog_13_method_123_code, 2, (some .int), 11, 0, 8, 177)
def m_M_act : zMeth := (⟨"TroupeSumsModel", "act", "()V"⟩, prog_13_method_113_code, 2, none, 11, 0, 0, 0)
def m_M_take : zMeth := (⟨"TroupeSumsModel", "take", "(II)I"⟩, prog_13_method_127_code, 4, (some .int), 11, 2, 3, 68)
def m_M_laysParts : zMeth := (⟨"TroupeSumsModel", "laysParts", "(I)V"⟩, prog_13_method_124_code, 6, none, 11, 1, 1, 22)
def m_M_fixedBy : zMeth := (⟨"TroupeSumsModel", "fixedBy", "(II)J"⟩, prog_13_method_126_code, 6, (some .long), 11, 2, 2, 43)
def m_M_setsOf : zMeth := (⟨"TroupeSumsModel", "setsOf", "(I)I"⟩, prog_13_method_125_code, 4, (some .int), 11, 1, 1, 20)
def m_M_marks : zMeth := (⟨"TroupeSumsModel", "marks", "()I"⟩, prog_13_method_131_code, 5, (some .int), 11, 0, 5, 118)
def m_M_readsMarks : zMeth := (⟨"TroupeSumsModel", "readsMarks", "(I)Z"⟩, prog_13_method_130_code, 2, (some .boolean), 11, 1, 2, 45)
def m_M_isBlank : zMeth := (⟨"TroupeSumsModel", "isBlank", "(I)Z"⟩, prog_13_method_129_code, 2, (some .boolean), 11, 1, 0, 0)
def m_M_readsNumber : zMeth := (⟨"TroupeSumsModel", "readsNumber", "(I)Z"⟩, prog_13_method_128_code, 6, (some .boolean), 11, 1, 1, 20)
def m_M_uses : zMeth := (⟨"TroupeSumsModel", "uses", "(I)I"⟩, prog_13_method_132_code, 3, (some .int), 11, 1, 2, 42)
def m_M_grows : zMeth := (⟨"TroupeSumsModel", "grows", "(III)J"⟩, prog_13_method_133_code, 5, (some .long), 11, 3, 2, 50)
theorem zclq_0 : (("TroupeSums" : String) ≠ "java/lang/invoke/MethodHandle" ∧ ("TroupeSums" : String) ≠ "java/lang/invoke/VarHandle") ∧ plainName "TroupeSums" = true := by decide +kernel
theorem zclq_1 : (("TroupeSums$Tokens" : String) ≠ "java/lang/invoke/MethodHandle" ∧ ("TroupeSums$Tokens" : String) ≠ "java/lang/invoke/VarHandle") ∧ plainName "TroupeSums$Tokens" = true := by decide +kernel
theorem zclq_2 : (("TroupeSums$IntRow" : String) ≠ "java/lang/invoke/MethodHandle" ∧ ("TroupeSums$IntRow" : String) ≠ "java/lang/invoke/VarHandle") ∧ plainName "TroupeSums$IntRow" = true := by decide +kernel
theorem zclq_3 : (("TroupeSums$Reader" : String) ≠ "java/lang/invoke/MethodHandle" ∧ ("TroupeSums$Reader" : String) ≠ "java/lang/invoke/VarHandle") ∧ plainName "TroupeSums$Reader" = true := by decide +kernel
theorem zclq_4 : (("TroupeSums$Troupe" : String) ≠ "java/lang/invoke/MethodHandle" ∧ ("TroupeSums$Troupe" : String) ≠ "java/lang/invoke/VarHandle") ∧ plainName "TroupeSums$Troupe" = true := by decide +kernel
theorem zclq_5 : (("TroupeSums$Group" : String) ≠ "java/lang/invoke/MethodHandle" ∧ ("TroupeSums$Group" : String) ≠ "java/lang/invoke/VarHandle") ∧ plainName "TroupeSums$Group" = true := by decide +kernel
theorem zclq_6 : (("TroupeSums$Sorts" : String) ≠ "java/lang/invoke/MethodHandle" ∧ ("TroupeSums$Sorts" : String) ≠ "java/lang/invoke/VarHandle") ∧ plainName "TroupeSums$Sorts" = true := by decide +kernel
theorem zclq_7 : (("TroupeSums$Sums" : String) ≠ "java/lang/invoke/MethodHandle" ∧ ("TroupeSums$Sums" : String) ≠ "java/lang/invoke/VarHandle") ∧ plainName "TroupeSums$Sums" = true := by decide +kernel
theorem zclq_8 : (("TroupeSums$LongRow" : String) ≠ "java/lang/invoke/MethodHandle" ∧ ("TroupeSums$LongRow" : String) ≠ "java/lang/invoke/VarHandle") ∧ plainName "TroupeSums$LongRow" = true := by decide +kernel
theorem zclq_9 : (("TroupeSums$Units" : String) ≠ "java/lang/invoke/MethodHandle" ∧ ("TroupeSums$Units" : String) ≠ "java/lang/invoke/VarHandle") ∧ plainName "TroupeSums$Units" = true := by decide +kernel
theorem zclq_10 : (("TroupeSums$Calculator" : String) ≠ "java/lang/invoke/MethodHandle" ∧ ("TroupeSums$Calculator" : String) ≠ "java/lang/invoke/VarHandle") ∧ plainName "TroupeSums$Calculator" = true := by decide +kernel
theorem zclq_11 : (("java/lang/Integer" : String) ≠ "java/lang/invoke/MethodHandle" ∧ ("java/lang/Integer" : String) ≠ "java/lang/invoke/VarHandle") ∧ plainName "java/lang/Integer" = true := by decide +kernel
theorem zclq_12 : (("java/lang/String" : String) ≠ "java/lang/invoke/MethodHandle" ∧ ("java/lang/String" : String) ≠ "java/lang/invoke/VarHandle") ∧ plainName "java/lang/String" = true := by decide +kernel
theorem zclq_13 : (("java/lang/StringLatin1" : String) ≠ "java/lang/invoke/MethodHandle" ∧ ("java/lang/StringLatin1" : String) ≠ "java/lang/invoke/VarHandle") ∧ plainName "java/lang/StringLatin1" = true := by decide +kernel
theorem zclq_14 : (("jdk/internal/util/Preconditions" : String) ≠ "java/lang/invoke/MethodHandle" ∧ ("jdk/internal/util/Preconditions" : String) ≠ "java/lang/invoke/VarHandle") ∧ plainName "jdk/internal/util/Preconditions" = true := by decide +kernel
theorem zclq_16 : (("TroupeSumsModel" : String) ≠ "java/lang/invoke/MethodHandle" ∧ ("TroupeSumsModel" : String) ≠ "java/lang/invoke/VarHandle") ∧ plainName "TroupeSumsModel" = true := by decide +kernel
theorem zdpq_0 : (parseMethodDescriptor "()V").map (fun d => d.parameters.length) = some 0 := by decide +kernel
theorem zdpq_1 : (parseMethodDescriptor "(I)V").map (fun d => d.parameters.length) = some 1 := by decide +kernel
theorem zdpq_2 : (parseMethodDescriptor "(LTroupeSums$Tokens;)V").map (fun d => d.parameters.length) = some 1 := by decide +kernel
theorem zdpq_3 : (parseMethodDescriptor "(LTroupeSums$Group;)V").map (fun d => d.parameters.length) = some 1 := by decide +kernel
theorem zdpq_4 : (parseMethodDescriptor "(LTroupeSums$Sorts;)V").map (fun d => d.parameters.length) = some 1 := by decide +kernel
theorem zdpq_5 : (parseMethodDescriptor "(LTroupeSums$Sums;)V").map (fun d => d.parameters.length) = some 1 := by decide +kernel
theorem zdpq_6 : (parseMethodDescriptor "()Z").map (fun d => d.parameters.length) = some 0 := by decide +kernel
theorem zdpq_7 : (parseMethodDescriptor "(II)I").map (fun d => d.parameters.length) = some 2 := by decide +kernel
theorem zdpq_8 : (parseMethodDescriptor "(II)V").map (fun d => d.parameters.length) = some 2 := by decide +kernel
theorem zdpq_9 : (parseMethodDescriptor "(I)I").map (fun d => d.parameters.length) = some 1 := by decide +kernel
theorem zdpq_10 : (parseMethodDescriptor "(II)Z").map (fun d => d.parameters.length) = some 2 := by decide +kernel
theorem zdpq_11 : (parseMethodDescriptor "(IIJ)V").map (fun d => d.parameters.length) = some 3 := by decide +kernel
theorem zdpq_12 : (parseMethodDescriptor "(IJ)V").map (fun d => d.parameters.length) = some 2 := by decide +kernel
theorem zdpq_13 : (parseMethodDescriptor "(IIIII)I").map (fun d => d.parameters.length) = some 5 := by decide +kernel
theorem zdpq_14 : (parseMethodDescriptor "()I").map (fun d => d.parameters.length) = some 0 := by decide +kernel
theorem zdpq_15 : (parseMethodDescriptor "(I)Z").map (fun d => d.parameters.length) = some 1 := by decide +kernel
theorem zdpq_16 : (parseMethodDescriptor "(LTroupeSums$Troupe;)Z").map (fun d => d.parameters.length) = some 1 := by decide +kernel
theorem zdpq_17 : (parseMethodDescriptor "(Ljava/lang/String;)Z").map (fun d => d.parameters.length) = some 1 := by decide +kernel
theorem zdpq_18 : (parseMethodDescriptor "()B").map (fun d => d.parameters.length) = some 0 := by decide +kernel
theorem zdpq_19 : (parseMethodDescriptor "(I)C").map (fun d => d.parameters.length) = some 1 := by decide +kernel
theorem zdpq_20 : (parseMethodDescriptor "([BI)C").map (fun d => d.parameters.length) = some 2 := by decide +kernel
theorem zdpq_21 : (parseMethodDescriptor "(IILjava/util/function/BiFunction;)I").map (fun d => d.parameters.length) = some 3 := by decide +kernel
theorem zdpq_24 : (parseMethodDescriptor "(LTroupeSums$Calculator;)Z").map (fun d => d.parameters.length) = some 1 := by decide +kernel
theorem zdpq_25 : (parseMethodDescriptor "(Z)V").map (fun d => d.parameters.length) = some 1 := by decide +kernel
theorem zdpq_26 : (parseMethodDescriptor "(I)J").map (fun d => d.parameters.length) = some 1 := by decide +kernel
theorem zdpq_27 : (parseMethodDescriptor "(II)J").map (fun d => d.parameters.length) = some 2 := by decide +kernel
theorem zdpq_28 : (parseMethodDescriptor "(III)V").map (fun d => d.parameters.length) = some 3 := by decide +kernel
theorem zdpq_29 : (parseMethodDescriptor "(III)I").map (fun d => d.parameters.length) = some 3 := by decide +kernel
theorem zdpq_30 : (parseMethodDescriptor "(III)Z").map (fun d => d.parameters.length) = some 3 := by decide +kernel
theorem zdpq_31 : (parseMethodDescriptor "(IIII)I").map (fun d => d.parameters.length) = some 4 := by decide +kernel
theorem zdpq_32 : (parseMethodDescriptor "(ILTroupeSums$LongRow;)J").map (fun d => d.parameters.length) = some 2 := by decide +kernel
theorem zdpq_33 : (parseMethodDescriptor "(LTroupeSums$LongRow;I)Z").map (fun d => d.parameters.length) = some 2 := by decide +kernel
theorem zdpq_34 : (parseMethodDescriptor "(LTroupeSums$LongRow;)I").map (fun d => d.parameters.length) = some 1 := by decide +kernel
theorem zdpq_35 : (parseMethodDescriptor "(III)J").map (fun d => d.parameters.length) = some 3 := by decide +kernel
theorem zdpq_36 : (parseMethodDescriptor "(Z)I").map (fun d => d.parameters.length) = some 1 := by decide +kernel
theorem zdpq_37 : (parseMethodDescriptor "(JJJ)Z").map (fun d => d.parameters.length) = some 3 := by decide +kernel
theorem zdpq_38 : (parseMethodDescriptor "(J)Z").map (fun d => d.parameters.length) = some 1 := by decide +kernel
theorem zdpq_39 : (parseMethodDescriptor "([JI)Z").map (fun d => d.parameters.length) = some 2 := by decide +kernel
theorem zdpq_40 : (parseMethodDescriptor "([JII)J").map (fun d => d.parameters.length) = some 3 := by decide +kernel
theorem zdpq_41 : (parseMethodDescriptor "(I[J)V").map (fun d => d.parameters.length) = some 2 := by decide +kernel
theorem zdpq_42 : (parseMethodDescriptor "([J[JI)V").map (fun d => d.parameters.length) = some 3 := by decide +kernel
theorem zdpq_43 : (parseMethodDescriptor "(JJ)V").map (fun d => d.parameters.length) = some 2 := by decide +kernel
theorem zdpq_44 : (parseMethodDescriptor "(JJ)J").map (fun d => d.parameters.length) = some 2 := by decide +kernel
theorem zdpq_45 : (parseMethodDescriptor "([JI)J").map (fun d => d.parameters.length) = some 2 := by decide +kernel
theorem md_T_init : zMd m_T_init := ⟨z_mem (zt_1 (List.mem_of_getElem? (i := 23) rfl)) rfl, rfl, by decide, zclq_0.1.1, zclq_0.1.2, zdpq_0, zclq_0.2⟩
theorem md_Tokens_init : zMd m_Tokens_init := ⟨z_mem (zt_1 (List.mem_of_getElem? (i := 31) rfl)) rfl, rfl, by decide, zclq_1.1.1, zclq_1.1.2, zdpq_0, zclq_1.2⟩
theorem md_IntRow_init : zMd m_IntRow_init := ⟨z_mem (zt_1 (List.mem_of_getElem? (i := 37) rfl)) rfl, rfl, by decide, zclq_2.1.1, zclq_2.1.2, zdpq_1, zclq_2.2⟩
theorem md_Reader_init : zMd m_Reader_init := ⟨z_mem (zt_1 (List.mem_of_getElem? (i := 76) rfl)) rfl, rfl, by decide, zclq_3.1.1, zclq_3.1.2, zdpq_2, zclq_3.2⟩
theorem md_Troupe_init : zMd m_Troupe_init := ⟨z_mem (zt_1 (List.mem_of_getElem? (i := 97) rfl)) rfl, rfl, by decide, zclq_4.1.1, zclq_4.1.2, zdpq_0, zclq_4.2⟩
theorem md_Group_init : zMd m_Group_init := ⟨z_mem (zt_1 (List.mem_of_getElem? (i := 103) rfl)) rfl, rfl, by decide, zclq_5.1.1, zclq_5.1.2, zdpq_0, zclq_5.2⟩
theorem md_Sorts_init : zMd m_Sorts_init := ⟨z_mem (zt_1 (List.mem_of_getElem? (i := 144) rfl)) rfl, rfl, by decide, zclq_6.1.1, zclq_6.1.2, zdpq_3, zclq_6.2⟩
theorem md_Sums_init : zMd m_Sums_init := ⟨z_mem (zt_1 (List.mem_of_getElem? (i := 187) rfl)) rfl, rfl, by decide, zclq_7.1.1, zclq_7.1.2, zdpq_4, zclq_7.2⟩
theorem md_LongRow_init : zMd m_LongRow_init := ⟨z_mem (zt_1 (List.mem_of_getElem? (i := 193) rfl)) rfl, rfl, by decide, zclq_8.1.1, zclq_8.1.2, zdpq_1, zclq_8.2⟩
theorem md_Units_init : zMd m_Units_init := ⟨z_mem (zt_1 (List.mem_of_getElem? (i := 217) rfl)) rfl, rfl, by decide, zclq_9.1.1, zclq_9.1.2, zdpq_4, zclq_9.2⟩
theorem md_Calc_init : zMd m_Calc_init := ⟨z_mem (zt_2 (List.mem_of_getElem? (i := 1) rfl)) rfl, rfl, by decide, zclq_10.1.1, zclq_10.1.2, zdpq_5, zclq_10.2⟩
theorem md_Troupe_begin : zMd m_Troupe_begin := ⟨z_mem (zt_2 (List.mem_of_getElem? (i := 73) rfl)) rfl, rfl, by decide, zclq_4.1.1, zclq_4.1.2, zdpq_1, zclq_4.2⟩
theorem md_Group_begin : zMd m_Group_begin := ⟨z_mem (zt_2 (List.mem_of_getElem? (i := 77) rfl)) rfl, rfl, by decide, zclq_5.1.1, zclq_5.1.2, zdpq_1, zclq_5.2⟩
theorem md_Group_gather : zMd m_Group_gather := ⟨z_mem (zt_2 (List.mem_of_getElem? (i := 81) rfl)) rfl, rfl, by decide, zclq_5.1.1, zclq_5.1.2, zdpq_6, zclq_5.2⟩
theorem md_T_codeOf : zMd m_T_codeOf := ⟨z_mem (zt_2 (List.mem_of_getElem? (i := 84) rfl)) rfl, rfl, by decide, zclq_0.1.1, zclq_0.1.2, zdpq_7, zclq_0.2⟩
theorem md_IntRow_put : zMd m_IntRow_put := ⟨z_mem (zt_2 (List.mem_of_getElem? (i := 88) rfl)) rfl, rfl, by decide, zclq_2.1.1, zclq_2.1.2, zdpq_8, zclq_2.2⟩
theorem md_IntRow_at : zMd m_IntRow_at := ⟨z_mem (zt_2 (List.mem_of_getElem? (i := 92) rfl)) rfl, rfl, by decide, zclq_2.1.1, zclq_2.1.2, zdpq_9, zclq_2.2⟩
theorem md_Group_behind : zMd m_Group_behind := ⟨z_mem (zt_2 (List.mem_of_getElem? (i := 96) rfl)) rfl, rfl, by decide, zclq_5.1.1, zclq_5.1.2, zdpq_7, zclq_5.2⟩
theorem md_T_placeIn : zMd m_T_placeIn := ⟨z_mem (zt_2 (List.mem_of_getElem? (i := 99) rfl)) rfl, rfl, by decide, zclq_0.1.1, zclq_0.1.2, zdpq_7, zclq_0.2⟩
theorem md_Group_indexOf : zMd m_Group_indexOf := ⟨z_mem (zt_2 (List.mem_of_getElem? (i := 103) rfl)) rfl, rfl, by decide, zclq_5.1.1, zclq_5.1.2, zdpq_9, zclq_5.2⟩
theorem md_Troupe_settle : zMd m_Troupe_settle := ⟨z_mem (zt_2 (List.mem_of_getElem? (i := 107) rfl)) rfl, rfl, by decide, zclq_4.1.1, zclq_4.1.2, zdpq_0, zclq_4.2⟩
theorem md_Group_settle : zMd m_Group_settle := ⟨z_mem (zt_2 (List.mem_of_getElem? (i := 111) rfl)) rfl, rfl, by decide, zclq_5.1.1, zclq_5.1.2, zdpq_0, zclq_5.2⟩
theorem md_Sorts_settle : zMd m_Sorts_settle := ⟨z_mem (zt_2 (List.mem_of_getElem? (i := 115) rfl)) rfl, rfl, by decide, zclq_6.1.1, zclq_6.1.2, zdpq_0, zclq_6.2⟩
theorem md_T_isIn : zMd m_T_isIn := ⟨z_mem (zt_2 (List.mem_of_getElem? (i := 120) rfl)) rfl, rfl, by decide, zclq_0.1.1, zclq_0.1.2, zdpq_10, zclq_0.2⟩
theorem md_Group_spanOf : zMd m_Group_spanOf := ⟨z_mem (zt_2 (List.mem_of_getElem? (i := 124) rfl)) rfl, rfl, by decide, zclq_5.1.1, zclq_5.1.2, zdpq_9, zclq_5.2⟩
theorem md_Group_both : zMd m_Group_both := ⟨z_mem (zt_2 (List.mem_of_getElem? (i := 129) rfl)) rfl, rfl, by decide, zclq_5.1.1, zclq_5.1.2, zdpq_7, zclq_5.2⟩
theorem md_Sorts_addSubgroup : zMd m_Sorts_addSubgroup := ⟨z_mem (zt_2 (List.mem_of_getElem? (i := 133) rfl)) rfl, rfl, by decide, zclq_6.1.1, zclq_6.1.2, zdpq_1, zclq_6.2⟩
theorem md_Sorts_indexOf : zMd m_Sorts_indexOf := ⟨z_mem (zt_2 (List.mem_of_getElem? (i := 137) rfl)) rfl, rfl, by decide, zclq_6.1.1, zclq_6.1.2, zdpq_9, zclq_6.2⟩
theorem md_Sorts_arrange : zMd m_Sorts_arrange := ⟨z_mem (zt_2 (List.mem_of_getElem? (i := 141) rfl)) rfl, rfl, by decide, zclq_6.1.1, zclq_6.1.2, zdpq_0, zclq_6.2⟩
theorem md_Sorts_isAhead : zMd m_Sorts_isAhead := ⟨z_mem (zt_2 (List.mem_of_getElem? (i := 144) rfl)) rfl, rfl, by decide, zclq_6.1.1, zclq_6.1.2, zdpq_10, zclq_6.2⟩
theorem md_Integer_bitCount : zMd m_Integer_bitCount := ⟨z_mem (zt_2 (List.mem_of_getElem? (i := 147) rfl)) rfl, rfl, by decide, zclq_11.1.1, zclq_11.1.2, zdpq_9, zclq_11.2⟩
theorem md_Sorts_numberSorts : zMd m_Sorts_numberSorts := ⟨z_mem (zt_2 (List.mem_of_getElem? (i := 154) rfl)) rfl, rfl, by decide, zclq_6.1.1, zclq_6.1.2, zdpq_0, zclq_6.2⟩
theorem md_Group_turnAll : zMd m_Group_turnAll := ⟨z_mem (zt_2 (List.mem_of_getElem? (i := 158) rfl)) rfl, rfl, by decide, zclq_5.1.1, zclq_5.1.2, zdpq_7, zclq_5.2⟩
theorem md_Group_turn : zMd m_Group_turn := ⟨z_mem (zt_2 (List.mem_of_getElem? (i := 162) rfl)) rfl, rfl, by decide, zclq_5.1.1, zclq_5.1.2, zdpq_7, zclq_5.2⟩
theorem md_Sorts_fillTable : zMd m_Sorts_fillTable := ⟨z_mem (zt_2 (List.mem_of_getElem? (i := 166) rfl)) rfl, rfl, by decide, zclq_6.1.1, zclq_6.1.2, zdpq_0, zclq_6.2⟩
theorem md_Sorts_countTurned : zMd m_Sorts_countTurned := ⟨z_mem (zt_2 (List.mem_of_getElem? (i := 170) rfl)) rfl, rfl, by decide, zclq_6.1.1, zclq_6.1.2, zdpq_8, zclq_6.2⟩
theorem md_T_isPart : zMd m_T_isPart := ⟨z_mem (zt_2 (List.mem_of_getElem? (i := 173) rfl)) rfl, rfl, by decide, zclq_0.1.1, zclq_0.1.2, zdpq_10, zclq_0.2⟩
theorem md_Sorts_markAt : zMd m_Sorts_markAt := ⟨z_mem (zt_2 (List.mem_of_getElem? (i := 177) rfl)) rfl, rfl, by decide, zclq_6.1.1, zclq_6.1.2, zdpq_7, zclq_6.2⟩
theorem md_Units_forget : zMd m_Units_forget := ⟨z_mem (zt_2 (List.mem_of_getElem? (i := 181) rfl)) rfl, rfl, by decide, zclq_9.1.1, zclq_9.1.2, zdpq_0, zclq_9.2⟩
theorem md_Sums_putSingle : zMd m_Sums_putSingle := ⟨z_mem (zt_2 (List.mem_of_getElem? (i := 185) rfl)) rfl, rfl, by decide, zclq_7.1.1, zclq_7.1.2, zdpq_11, zclq_7.2⟩
theorem md_LongRow_put : zMd m_LongRow_put := ⟨z_mem (zt_2 (List.mem_of_getElem? (i := 189) rfl)) rfl, rfl, by decide, zclq_8.1.1, zclq_8.1.2, zdpq_12, zclq_8.2⟩
theorem md_T_feed : zMd m_T_feed := ⟨z_mem (zt_2 (List.mem_of_getElem? (i := 206) rfl)) rfl, rfl, by decide, zclq_0.1.1, zclq_0.1.2, zdpq_13, zclq_0.2⟩
theorem md_Tokens_append : zMd m_Tokens_append := ⟨z_mem (zt_2 (List.mem_of_getElem? (i := 210) rfl)) rfl, rfl, by decide, zclq_1.1.1, zclq_1.1.2, zdpq_1, zclq_1.2⟩
theorem md_T_end : zMd m_T_end := ⟨z_mem (zt_2 (List.mem_of_getElem? (i := 215) rfl)) rfl, rfl, by decide, zclq_0.1.1, zclq_0.1.2, zdpq_9, zclq_0.2⟩
theorem md_T_troupe : zMd m_T_troupe := ⟨z_mem (zt_2 (List.mem_of_getElem? (i := 219) rfl)) rfl, rfl, by decide, zclq_0.1.1, zclq_0.1.2, zdpq_14, zclq_0.2⟩
theorem md_Reader_begin : zMd m_Reader_begin := ⟨z_mem (zt_2 (List.mem_of_getElem? (i := 223) rfl)) rfl, rfl, by decide, zclq_3.1.1, zclq_3.1.2, zdpq_0, zclq_3.2⟩
theorem md_Tokens_rewind : zMd m_Tokens_rewind := ⟨z_mem (zt_2 (List.mem_of_getElem? (i := 227) rfl)) rfl, rfl, by decide, zclq_1.1.1, zclq_1.1.2, zdpq_0, zclq_1.2⟩
theorem md_Tokens_step : zMd m_Tokens_step := ⟨z_mem (zt_2 (List.mem_of_getElem? (i := 231) rfl)) rfl, rfl, by decide, zclq_1.1.1, zclq_1.1.2, zdpq_0, zclq_1.2⟩
theorem md_Tokens_pastBlanks : zMd m_Tokens_pastBlanks := ⟨z_mem (zt_2 (List.mem_of_getElem? (i := 235) rfl)) rfl, rfl, by decide, zclq_1.1.1, zclq_1.1.2, zdpq_9, zclq_1.2⟩
theorem md_Tokens_isBlank : zMd m_Tokens_isBlank := ⟨z_mem (zt_2 (List.mem_of_getElem? (i := 239) rfl)) rfl, rfl, by decide, zclq_1.1.1, zclq_1.1.2, zdpq_15, zclq_1.2⟩
theorem md_Tokens_isLetter : zMd m_Tokens_isLetter := ⟨z_mem (zt_3 (List.mem_of_getElem? (i := 2) rfl)) rfl, rfl, by decide, zclq_1.1.1, zclq_1.1.2, zdpq_15, zclq_1.2⟩
theorem md_Tokens_readWord : zMd m_Tokens_readWord := ⟨z_mem (zt_3 (List.mem_of_getElem? (i := 6) rfl)) rfl, rfl, by decide, zclq_1.1.1, zclq_1.1.2, zdpq_0, zclq_1.2⟩
theorem md_Tokens_isDigit : zMd m_Tokens_isDigit := ⟨z_mem (zt_3 (List.mem_of_getElem? (i := 9) rfl)) rfl, rfl, by decide, zclq_1.1.1, zclq_1.1.2, zdpq_15, zclq_1.2⟩
theorem md_Tokens_readNumber : zMd m_Tokens_readNumber := ⟨z_mem (zt_3 (List.mem_of_getElem? (i := 13) rfl)) rfl, rfl, by decide, zclq_1.1.1, zclq_1.1.2, zdpq_0, zclq_1.2⟩
theorem md_Tokens_pastDigits : zMd m_Tokens_pastDigits := ⟨z_mem (zt_3 (List.mem_of_getElem? (i := 17) rfl)) rfl, rfl, by decide, zclq_1.1.1, zclq_1.1.2, zdpq_9, zclq_1.2⟩
theorem md_Tokens_numberFrom : zMd m_Tokens_numberFrom := ⟨z_mem (zt_3 (List.mem_of_getElem? (i := 21) rfl)) rfl, rfl, by decide, zclq_1.1.1, zclq_1.1.2, zdpq_7, zclq_1.2⟩
theorem md_Tokens_isSignByte : zMd m_Tokens_isSignByte := ⟨z_mem (zt_3 (List.mem_of_getElem? (i := 24) rfl)) rfl, rfl, by decide, zclq_1.1.1, zclq_1.1.2, zdpq_15, zclq_1.2⟩
theorem md_Reader_readPlaces : zMd m_Reader_readPlaces := ⟨z_mem (zt_3 (List.mem_of_getElem? (i := 28) rfl)) rfl, rfl, by decide, zclq_3.1.1, zclq_3.1.2, zdpq_16, zclq_3.2⟩
theorem md_Tokens_isWord : zMd m_Tokens_isWord := ⟨z_mem (zt_3 (List.mem_of_getElem? (i := 33) rfl)) rfl, rfl, by decide, zclq_1.1.1, zclq_1.1.2, zdpq_17, zclq_1.2⟩
theorem md_String_length : zMd m_String_length := ⟨z_mem (zt_3 (List.mem_of_getElem? (i := 37) rfl)) rfl, rfl, by decide, zclq_12.1.1, zclq_12.1.2, zdpq_14, zclq_12.2⟩
theorem md_String_coder : zMd m_String_coder := ⟨z_mem (zt_3 (List.mem_of_getElem? (i := 41) rfl)) rfl, rfl, by decide, zclq_12.1.1, zclq_12.1.2, zdpq_18, zclq_12.2⟩
theorem md_String_charAt : zMd m_String_charAt := ⟨z_mem (zt_3 (List.mem_of_getElem? (i := 47) rfl)) rfl, rfl, by decide, zclq_12.1.1, zclq_12.1.2, zdpq_19, zclq_12.2⟩
theorem md_String_isLatin1 : zMd m_String_isLatin1 := ⟨z_mem (zt_3 (List.mem_of_getElem? (i := 51) rfl)) rfl, rfl, by decide, zclq_12.1.1, zclq_12.1.2, zdpq_6, zclq_12.2⟩
theorem md_StringLatin1_charAt : zMd m_StringLatin1_charAt := ⟨z_mem (zt_3 (List.mem_of_getElem? (i := 54) rfl)) rfl, rfl, by decide, zclq_13.1.1, zclq_13.1.2, zdpq_20, zclq_13.2⟩
theorem md_String_checkIndex : zMd m_String_checkIndex := ⟨z_mem (zt_3 (List.mem_of_getElem? (i := 57) rfl)) rfl, rfl, by decide, zclq_12.1.1, zclq_12.1.2, zdpq_8, zclq_12.2⟩
theorem md_Precond_checkIndex : zMd m_Precond_checkIndex := ⟨z_mem (zt_3 (List.mem_of_getElem? (i := 62) rfl)) rfl, rfl, by decide, zclq_14.1.1, zclq_14.1.2, zdpq_21, zclq_14.2⟩
theorem md_Reader_refuse : zMd m_Reader_refuse := ⟨z_mem (zt_3 (List.mem_of_getElem? (i := 85) rfl)) rfl, rfl, by decide, zclq_3.1.1, zclq_3.1.2, zdpq_15, zclq_3.2⟩
theorem md_Reader_refuseAt : zMd m_Reader_refuseAt := ⟨z_mem (zt_3 (List.mem_of_getElem? (i := 89) rfl)) rfl, rfl, by decide, zclq_3.1.1, zclq_3.1.2, zdpq_10, zclq_3.2⟩
theorem md_Tokens_isNumber : zMd m_Tokens_isNumber := ⟨z_mem (zt_3 (List.mem_of_getElem? (i := 94) rfl)) rfl, rfl, by decide, zclq_1.1.1, zclq_1.1.2, zdpq_6, zclq_1.2⟩
theorem md_Reader_passSign : zMd m_Reader_passSign := ⟨z_mem (zt_3 (List.mem_of_getElem? (i := 99) rfl)) rfl, rfl, by decide, zclq_3.1.1, zclq_3.1.2, zdpq_15, zclq_3.2⟩
theorem md_Tokens_isSign : zMd m_Tokens_isSign := ⟨z_mem (zt_3 (List.mem_of_getElem? (i := 103) rfl)) rfl, rfl, by decide, zclq_1.1.1, zclq_1.1.2, zdpq_15, zclq_1.2⟩
theorem md_Reader_readMoves : zMd m_Reader_readMoves := ⟨z_mem (zt_3 (List.mem_of_getElem? (i := 107) rfl)) rfl, rfl, by decide, zclq_3.1.1, zclq_3.1.2, zdpq_16, zclq_3.2⟩
theorem md_Reader_readMove : zMd m_Reader_readMove := ⟨z_mem (zt_3 (List.mem_of_getElem? (i := 112) rfl)) rfl, rfl, by decide, zclq_3.1.1, zclq_3.1.2, zdpq_9, zclq_3.2⟩
theorem md_Group_addMove : zMd m_Group_addMove := ⟨z_mem (zt_3 (List.mem_of_getElem? (i := 118) rfl)) rfl, rfl, by decide, zclq_5.1.1, zclq_5.1.2, zdpq_15, zclq_5.2⟩
theorem md_Reader_readLets : zMd m_Reader_readLets := ⟨z_mem (zt_3 (List.mem_of_getElem? (i := 122) rfl)) rfl, rfl, by decide, zclq_3.1.1, zclq_3.1.2, zdpq_16, zclq_3.2⟩
theorem md_Tokens_isName : zMd m_Tokens_isName := ⟨z_mem (zt_3 (List.mem_of_getElem? (i := 127) rfl)) rfl, rfl, by decide, zclq_1.1.1, zclq_1.1.2, zdpq_6, zclq_1.2⟩
theorem md_Troupe_nameOf : zMd m_Troupe_nameOf := ⟨z_mem (zt_3 (List.mem_of_getElem? (i := 136) rfl)) rfl, rfl, by decide, zclq_4.1.1, zclq_4.1.2, zdpq_9, zclq_4.2⟩
theorem md_Reader_readSum : zMd m_Reader_readSum := ⟨z_mem (zt_3 (List.mem_of_getElem? (i := 141) rfl)) rfl, rfl, by decide, zclq_3.1.1, zclq_3.1.2, zdpq_16, zclq_3.2⟩
theorem md_Calc_begin : zMd m_Calc_begin := ⟨z_mem (zt_3 (List.mem_of_getElem? (i := 145) rfl)) rfl, rfl, by decide, zclq_10.1.1, zclq_10.1.2, zdpq_0, zclq_10.2⟩
theorem md_Reader_readAhead : zMd m_Reader_readAhead := ⟨z_mem (zt_3 (List.mem_of_getElem? (i := 149) rfl)) rfl, rfl, by decide, zclq_3.1.1, zclq_3.1.2, zdpq_24, zclq_3.2⟩
theorem md_Reader_countUnit : zMd m_Reader_countUnit := ⟨z_mem (zt_3 (List.mem_of_getElem? (i := 153) rfl)) rfl, rfl, by decide, zclq_3.1.1, zclq_3.1.2, zdpq_24, zclq_3.2⟩
theorem md_Calc_open : zMd m_Calc_open := ⟨z_mem (zt_3 (List.mem_of_getElem? (i := 157) rfl)) rfl, rfl, by decide, zclq_10.1.1, zclq_10.1.2, zdpq_25, zclq_10.2⟩
theorem md_Calc_pushSign : zMd m_Calc_pushSign := ⟨z_mem (zt_3 (List.mem_of_getElem? (i := 161) rfl)) rfl, rfl, by decide, zclq_10.1.1, zclq_10.1.2, zdpq_1, zclq_10.2⟩
theorem md_Reader_readOperand : zMd m_Reader_readOperand := ⟨z_mem (zt_3 (List.mem_of_getElem? (i := 166) rfl)) rfl, rfl, by decide, zclq_3.1.1, zclq_3.1.2, zdpq_16, zclq_3.2⟩
theorem md_Reader_readNamed : zMd m_Reader_readNamed := ⟨z_mem (zt_3 (List.mem_of_getElem? (i := 171) rfl)) rfl, rfl, by decide, zclq_3.1.1, zclq_3.1.2, zdpq_16, zclq_3.2⟩
theorem md_Calc_pushNamed : zMd m_Calc_pushNamed := ⟨z_mem (zt_3 (List.mem_of_getElem? (i := 175) rfl)) rfl, rfl, by decide, zclq_10.1.1, zclq_10.1.2, zdpq_1, zclq_10.2⟩
theorem md_Calc_nextShelf : zMd m_Calc_nextShelf := ⟨z_mem (zt_3 (List.mem_of_getElem? (i := 179) rfl)) rfl, rfl, by decide, zclq_10.1.1, zclq_10.1.2, zdpq_14, zclq_10.2⟩
theorem md_Calc_topShelf : zMd m_Calc_topShelf := ⟨z_mem (zt_3 (List.mem_of_getElem? (i := 183) rfl)) rfl, rfl, by decide, zclq_10.1.1, zclq_10.1.2, zdpq_14, zclq_10.2⟩
theorem md_Sums_copy : zMd m_Sums_copy := ⟨z_mem (zt_3 (List.mem_of_getElem? (i := 187) rfl)) rfl, rfl, by decide, zclq_7.1.1, zclq_7.1.2, zdpq_8, zclq_7.2⟩
theorem md_LongRow_at : zMd m_LongRow_at := ⟨z_mem (zt_3 (List.mem_of_getElem? (i := 191) rfl)) rfl, rfl, by decide, zclq_8.1.1, zclq_8.1.2, zdpq_26, zclq_8.2⟩
theorem md_Calc_pushSingle : zMd m_Calc_pushSingle := ⟨z_mem (zt_3 (List.mem_of_getElem? (i := 195) rfl)) rfl, rfl, by decide, zclq_10.1.1, zclq_10.1.2, zdpq_8, zclq_10.2⟩
theorem md_Reader_readBehind : zMd m_Reader_readBehind := ⟨z_mem (zt_3 (List.mem_of_getElem? (i := 200) rfl)) rfl, rfl, by decide, zclq_3.1.1, zclq_3.1.2, zdpq_24, zclq_3.2⟩
theorem md_Calc_raise : zMd m_Calc_raise := ⟨z_mem (zt_3 (List.mem_of_getElem? (i := 204) rfl)) rfl, rfl, by decide, zclq_10.1.1, zclq_10.1.2, zdpq_1, zclq_10.2⟩
theorem md_Sums_multiply : zMd m_Sums_multiply := ⟨z_mem (zt_3 (List.mem_of_getElem? (i := 208) rfl)) rfl, rfl, by decide, zclq_7.1.1, zclq_7.1.2, zdpq_10, zclq_7.2⟩
theorem md_Sums_markOf : zMd m_Sums_markOf := ⟨z_mem (zt_3 (List.mem_of_getElem? (i := 212) rfl)) rfl, rfl, by decide, zclq_7.1.1, zclq_7.1.2, zdpq_27, zclq_7.2⟩
theorem md_Sums_solve : zMd m_Sums_solve := ⟨z_mem (zt_3 (List.mem_of_getElem? (i := 221) rfl)) rfl, rfl, by decide, zclq_7.1.1, zclq_7.1.2, zdpq_1, zclq_7.2⟩
theorem md_Sums_isInBounds : zMd m_Sums_isInBounds := ⟨z_mem (zt_3 (List.mem_of_getElem? (i := 225) rfl)) rfl, rfl, by decide, zclq_7.1.1, zclq_7.1.2, zdpq_15, zclq_7.2⟩
theorem md_Sums_numberAt : zMd m_Sums_numberAt := ⟨z_mem (zt_3 (List.mem_of_getElem? (i := 229) rfl)) rfl, rfl, by decide, zclq_7.1.1, zclq_7.1.2, zdpq_27, zclq_7.2⟩
theorem md_Calc_settle : zMd m_Calc_settle := ⟨z_mem (zt_3 (List.mem_of_getElem? (i := 233) rfl)) rfl, rfl, by decide, zclq_10.1.1, zclq_10.1.2, zdpq_25, zclq_10.2⟩
theorem md_Calc_negate : zMd m_Calc_negate := ⟨z_mem (zt_3 (List.mem_of_getElem? (i := 237) rfl)) rfl, rfl, by decide, zclq_10.1.1, zclq_10.1.2, zdpq_0, zclq_10.2⟩
theorem md_Calc_topSign : zMd m_Calc_topSign := ⟨z_mem (zt_4 (List.mem_of_getElem? (i := 1) rfl)) rfl, rfl, by decide, zclq_10.1.1, zclq_10.1.2, zdpq_14, zclq_10.2⟩
theorem md_Sums_putNegative : zMd m_Sums_putNegative := ⟨z_mem (zt_4 (List.mem_of_getElem? (i := 6) rfl)) rfl, rfl, by decide, zclq_7.1.1, zclq_7.1.2, zdpq_1, zclq_7.2⟩
theorem md_Sums_putNumber : zMd m_Sums_putNumber := ⟨z_mem (zt_4 (List.mem_of_getElem? (i := 10) rfl)) rfl, rfl, by decide, zclq_7.1.1, zclq_7.1.2, zdpq_11, zclq_7.2⟩
theorem md_Calc_reckon : zMd m_Calc_reckon := ⟨z_mem (zt_4 (List.mem_of_getElem? (i := 14) rfl)) rfl, rfl, by decide, zclq_10.1.1, zclq_10.1.2, zdpq_25, zclq_10.2⟩
theorem md_Sums_add : zMd m_Sums_add := ⟨z_mem (zt_4 (List.mem_of_getElem? (i := 18) rfl)) rfl, rfl, by decide, zclq_7.1.1, zclq_7.1.2, zdpq_28, zclq_7.2⟩
theorem md_Calc_close : zMd m_Calc_close := ⟨z_mem (zt_4 (List.mem_of_getElem? (i := 22) rfl)) rfl, rfl, by decide, zclq_10.1.1, zclq_10.1.2, zdpq_0, zclq_10.2⟩
theorem md_Calc_put : zMd m_Calc_put := ⟨z_mem (zt_4 (List.mem_of_getElem? (i := 26) rfl)) rfl, rfl, by decide, zclq_10.1.1, zclq_10.1.2, zdpq_1, zclq_10.2⟩
theorem md_Troupe_addName : zMd m_Troupe_addName := ⟨z_mem (zt_4 (List.mem_of_getElem? (i := 31) rfl)) rfl, rfl, by decide, zclq_4.1.1, zclq_4.1.2, zdpq_1, zclq_4.2⟩
theorem md_T_fault : zMd m_T_fault := ⟨z_mem (zt_4 (List.mem_of_getElem? (i := 38) rfl)) rfl, rfl, by decide, zclq_0.1.1, zclq_0.1.2, zdpq_9, zclq_0.2⟩
theorem md_T_about : zMd m_T_about := ⟨z_mem (zt_4 (List.mem_of_getElem? (i := 42) rfl)) rfl, rfl, by decide, zclq_0.1.1, zclq_0.1.2, zdpq_9, zclq_0.2⟩
theorem md_Group_everyone : zMd m_Group_everyone := ⟨z_mem (zt_4 (List.mem_of_getElem? (i := 46) rfl)) rfl, rfl, by decide, zclq_5.1.1, zclq_5.1.2, zdpq_14, zclq_5.2⟩
theorem md_Group_isCommuting : zMd m_Group_isCommuting := ⟨z_mem (zt_4 (List.mem_of_getElem? (i := 50) rfl)) rfl, rfl, by decide, zclq_5.1.1, zclq_5.1.2, zdpq_15, zclq_5.2⟩
theorem md_Group_centreOf : zMd m_Group_centreOf := ⟨z_mem (zt_4 (List.mem_of_getElem? (i := 54) rfl)) rfl, rfl, by decide, zclq_5.1.1, zclq_5.1.2, zdpq_9, zclq_5.2⟩
theorem md_Group_commutingWith : zMd m_Group_commutingWith := ⟨z_mem (zt_4 (List.mem_of_getElem? (i := 58) rfl)) rfl, rfl, by decide, zclq_5.1.1, zclq_5.1.2, zdpq_7, zclq_5.2⟩
theorem md_T_moves : zMd m_T_moves := ⟨z_mem (zt_4 (List.mem_of_getElem? (i := 62) rfl)) rfl, rfl, by decide, zclq_0.1.1, zclq_0.1.2, zdpq_7, zclq_0.2⟩
theorem md_Group_hasMember : zMd m_Group_hasMember := ⟨z_mem (zt_4 (List.mem_of_getElem? (i := 66) rfl)) rfl, rfl, by decide, zclq_5.1.1, zclq_5.1.2, zdpq_15, zclq_5.2⟩
theorem md_Group_hasPlace : zMd m_Group_hasPlace := ⟨z_mem (zt_4 (List.mem_of_getElem? (i := 70) rfl)) rfl, rfl, by decide, zclq_5.1.1, zclq_5.1.2, zdpq_15, zclq_5.2⟩
theorem md_T_times : zMd m_T_times := ⟨z_mem (zt_4 (List.mem_of_getElem? (i := 76) rfl)) rfl, rfl, by decide, zclq_0.1.1, zclq_0.1.2, zdpq_7, zclq_0.2⟩
theorem md_T_order : zMd m_T_order := ⟨z_mem (zt_4 (List.mem_of_getElem? (i := 81) rfl)) rfl, rfl, by decide, zclq_0.1.1, zclq_0.1.2, zdpq_9, zclq_0.2⟩
theorem md_Group_repeatsOf : zMd m_Group_repeatsOf := ⟨z_mem (zt_4 (List.mem_of_getElem? (i := 85) rfl)) rfl, rfl, by decide, zclq_5.1.1, zclq_5.1.2, zdpq_9, zclq_5.2⟩
theorem md_T_makesOf : zMd m_T_makesOf := ⟨z_mem (zt_4 (List.mem_of_getElem? (i := 89) rfl)) rfl, rfl, by decide, zclq_0.1.1, zclq_0.1.2, zdpq_9, zclq_0.2⟩
theorem md_Group_hasMembers : zMd m_Group_hasMembers := ⟨z_mem (zt_4 (List.mem_of_getElem? (i := 93) rfl)) rfl, rfl, by decide, zclq_5.1.1, zclq_5.1.2, zdpq_15, zclq_5.2⟩
theorem md_T_sortOf : zMd m_T_sortOf := ⟨z_mem (zt_4 (List.mem_of_getElem? (i := 98) rfl)) rfl, rfl, by decide, zclq_0.1.1, zclq_0.1.2, zdpq_9, zclq_0.2⟩
theorem md_Sorts_spannedSort : zMd m_Sorts_spannedSort := ⟨z_mem (zt_4 (List.mem_of_getElem? (i := 102) rfl)) rfl, rfl, by decide, zclq_6.1.1, zclq_6.1.2, zdpq_9, zclq_6.2⟩
theorem md_T_sort : zMd m_T_sort := ⟨z_mem (zt_4 (List.mem_of_getElem? (i := 106) rfl)) rfl, rfl, by decide, zclq_0.1.1, zclq_0.1.2, zdpq_7, zclq_0.2⟩
theorem md_Sorts_hasSort : zMd m_Sorts_hasSort := ⟨z_mem (zt_4 (List.mem_of_getElem? (i := 110) rfl)) rfl, rfl, by decide, zclq_6.1.1, zclq_6.1.2, zdpq_15, zclq_6.2⟩
theorem md_Sorts_countOf : zMd m_Sorts_countOf := ⟨z_mem (zt_4 (List.mem_of_getElem? (i := 115) rfl)) rfl, rfl, by decide, zclq_6.1.1, zclq_6.1.2, zdpq_9, zclq_6.2⟩
theorem md_Sorts_countWithin : zMd m_Sorts_countWithin := ⟨z_mem (zt_4 (List.mem_of_getElem? (i := 119) rfl)) rfl, rfl, by decide, zclq_6.1.1, zclq_6.1.2, zdpq_7, zclq_6.2⟩
theorem md_Group_normOf : zMd m_Group_normOf := ⟨z_mem (zt_4 (List.mem_of_getElem? (i := 123) rfl)) rfl, rfl, by decide, zclq_5.1.1, zclq_5.1.2, zdpq_9, zclq_5.2⟩
theorem md_Group_isMadeByOne : zMd m_Group_isMadeByOne := ⟨z_mem (zt_4 (List.mem_of_getElem? (i := 128) rfl)) rfl, rfl, by decide, zclq_5.1.1, zclq_5.1.2, zdpq_15, zclq_5.2⟩
theorem md_T_within : zMd m_T_within := ⟨z_mem (zt_4 (List.mem_of_getElem? (i := 134) rfl)) rfl, rfl, by decide, zclq_0.1.1, zclq_0.1.2, zdpq_7, zclq_0.2⟩
theorem md_T_mark : zMd m_T_mark := ⟨z_mem (zt_4 (List.mem_of_getElem? (i := 139) rfl)) rfl, rfl, by decide, zclq_0.1.1, zclq_0.1.2, zdpq_7, zclq_0.2⟩
theorem md_T_product : zMd m_T_product := ⟨z_mem (zt_4 (List.mem_of_getElem? (i := 144) rfl)) rfl, rfl, by decide, zclq_0.1.1, zclq_0.1.2, zdpq_29, zclq_0.2⟩
theorem md_Sums_putProduct : zMd m_Sums_putProduct := ⟨z_mem (zt_4 (List.mem_of_getElem? (i := 148) rfl)) rfl, rfl, by decide, zclq_7.1.1, zclq_7.1.2, zdpq_8, zclq_7.2⟩
theorem md_T_residue : zMd m_T_residue := ⟨z_mem (zt_4 (List.mem_of_getElem? (i := 154) rfl)) rfl, rfl, by decide, zclq_0.1.1, zclq_0.1.2, zdpq_7, zclq_0.2⟩
theorem md_T_isPrime : zMd m_T_isPrime := ⟨z_mem (zt_4 (List.mem_of_getElem? (i := 157) rfl)) rfl, rfl, by decide, zclq_0.1.1, zclq_0.1.2, zdpq_15, zclq_0.2⟩
theorem md_Sorts_residueOf : zMd m_Sorts_residueOf := ⟨z_mem (zt_4 (List.mem_of_getElem? (i := 161) rfl)) rfl, rfl, by decide, zclq_6.1.1, zclq_6.1.2, zdpq_7, zclq_6.2⟩
theorem md_Sorts_isPowerApart : zMd m_Sorts_isPowerApart := ⟨z_mem (zt_4 (List.mem_of_getElem? (i := 165) rfl)) rfl, rfl, by decide, zclq_6.1.1, zclq_6.1.2, zdpq_30, zclq_6.2⟩
theorem md_T_block : zMd m_T_block := ⟨z_mem (zt_4 (List.mem_of_getElem? (i := 169) rfl)) rfl, rfl, by decide, zclq_0.1.1, zclq_0.1.2, zdpq_7, zclq_0.2⟩
theorem md_Sorts_blockOf : zMd m_Sorts_blockOf := ⟨z_mem (zt_4 (List.mem_of_getElem? (i := 173) rfl)) rfl, rfl, by decide, zclq_6.1.1, zclq_6.1.2, zdpq_7, zclq_6.2⟩
theorem md_T_keeper : zMd m_T_keeper := ⟨z_mem (zt_4 (List.mem_of_getElem? (i := 178) rfl)) rfl, rfl, by decide, zclq_0.1.1, zclq_0.1.2, zdpq_9, zclq_0.2⟩
theorem md_Group_keepersOf : zMd m_Group_keepersOf := ⟨z_mem (zt_4 (List.mem_of_getElem? (i := 182) rfl)) rfl, rfl, by decide, zclq_5.1.1, zclq_5.1.2, zdpq_9, zclq_5.2⟩
theorem md_T_orbit : zMd m_T_orbit := ⟨z_mem (zt_4 (List.mem_of_getElem? (i := 186) rfl)) rfl, rfl, by decide, zclq_0.1.1, zclq_0.1.2, zdpq_9, zclq_0.2⟩
theorem md_Group_reachOf : zMd m_Group_reachOf := ⟨z_mem (zt_4 (List.mem_of_getElem? (i := 190) rfl)) rfl, rfl, by decide, zclq_5.1.1, zclq_5.1.2, zdpq_9, zclq_5.2⟩
theorem md_Group_placesReached : zMd m_Group_placesReached := ⟨z_mem (zt_4 (List.mem_of_getElem? (i := 195) rfl)) rfl, rfl, by decide, zclq_5.1.1, zclq_5.1.2, zdpq_7, zclq_5.2⟩
theorem md_T_coset : zMd m_T_coset := ⟨z_mem (zt_4 (List.mem_of_getElem? (i := 199) rfl)) rfl, rfl, by decide, zclq_0.1.1, zclq_0.1.2, zdpq_7, zclq_0.2⟩
theorem md_Group_leastOfCoset : zMd m_Group_leastOfCoset := ⟨z_mem (zt_4 (List.mem_of_getElem? (i := 203) rfl)) rfl, rfl, by decide, zclq_5.1.1, zclq_5.1.2, zdpq_7, zclq_5.2⟩
theorem md_T_takes : zMd m_T_takes := ⟨z_mem (zt_4 (List.mem_of_getElem? (i := 210) rfl)) rfl, rfl, by decide, zclq_0.1.1, zclq_0.1.2, zdpq_29, zclq_0.2⟩
theorem md_T_moebius : zMd m_T_moebius := ⟨z_mem (zt_4 (List.mem_of_getElem? (i := 214) rfl)) rfl, rfl, by decide, zclq_0.1.1, zclq_0.1.2, zdpq_9, zclq_0.2⟩
theorem md_Sorts_moebiusOf : zMd m_Sorts_moebiusOf := ⟨z_mem (zt_4 (List.mem_of_getElem? (i := 218) rfl)) rfl, rfl, by decide, zclq_6.1.1, zclq_6.1.2, zdpq_9, zclq_6.2⟩
theorem md_T_mixed : zMd m_T_mixed := ⟨z_mem (zt_4 (List.mem_of_getElem? (i := 223) rfl)) rfl, rfl, by decide, zclq_0.1.1, zclq_0.1.2, zdpq_9, zclq_0.2⟩
theorem md_Group_mixturesOf : zMd m_Group_mixturesOf := ⟨z_mem (zt_4 (List.mem_of_getElem? (i := 227) rfl)) rfl, rfl, by decide, zclq_5.1.1, zclq_5.1.2, zdpq_9, zclq_5.2⟩
theorem md_T_centre : zMd m_T_centre := ⟨z_mem (zt_4 (List.mem_of_getElem? (i := 231) rfl)) rfl, rfl, by decide, zclq_0.1.1, zclq_0.1.2, zdpq_9, zclq_0.2⟩
theorem md_T_pairs : zMd m_T_pairs := ⟨z_mem (zt_4 (List.mem_of_getElem? (i := 236) rfl)) rfl, rfl, by decide, zclq_0.1.1, zclq_0.1.2, zdpq_7, zclq_0.2⟩
theorem md_Sums_totalOfWork : zMd m_Sums_totalOfWork := ⟨z_mem (zt_5 (List.mem_of_getElem? (i := 0) rfl)) rfl, rfl, by decide, zclq_7.1.1, zclq_7.1.2, zdpq_14, zclq_7.2⟩
theorem md_T_alike : zMd m_T_alike := ⟨z_mem (zt_5 (List.mem_of_getElem? (i := 4) rfl)) rfl, rfl, by decide, zclq_0.1.1, zclq_0.1.2, zdpq_14, zclq_0.2⟩
theorem md_Group_commutingPairs : zMd m_Group_commutingPairs := ⟨z_mem (zt_5 (List.mem_of_getElem? (i := 8) rfl)) rfl, rfl, by decide, zclq_5.1.1, zclq_5.1.2, zdpq_14, zclq_5.2⟩
theorem md_T_meet : zMd m_T_meet := ⟨z_mem (zt_5 (List.mem_of_getElem? (i := 12) rfl)) rfl, rfl, by decide, zclq_0.1.1, zclq_0.1.2, zdpq_7, zclq_0.2⟩
theorem md_T_join : zMd m_T_join := ⟨z_mem (zt_5 (List.mem_of_getElem? (i := 16) rfl)) rfl, rfl, by decide, zclq_0.1.1, zclq_0.1.2, zdpq_7, zclq_0.2⟩
theorem md_T_orders : zMd m_T_orders := ⟨z_mem (zt_5 (List.mem_of_getElem? (i := 20) rfl)) rfl, rfl, by decide, zclq_0.1.1, zclq_0.1.2, zdpq_9, zclq_0.2⟩
theorem md_Group_countRepeating : zMd m_Group_countRepeating := ⟨z_mem (zt_5 (List.mem_of_getElem? (i := 24) rfl)) rfl, rfl, by decide, zclq_5.1.1, zclq_5.1.2, zdpq_9, zclq_5.2⟩
theorem md_T_likes : zMd m_T_likes := ⟨z_mem (zt_5 (List.mem_of_getElem? (i := 28) rfl)) rfl, rfl, by decide, zclq_0.1.1, zclq_0.1.2, zdpq_9, zclq_0.2⟩
theorem md_Group_countLike : zMd m_Group_countLike := ⟨z_mem (zt_5 (List.mem_of_getElem? (i := 32) rfl)) rfl, rfl, by decide, zclq_5.1.1, zclq_5.1.2, zdpq_9, zclq_5.2⟩
theorem md_T_peak : zMd m_T_peak := ⟨z_mem (zt_5 (List.mem_of_getElem? (i := 36) rfl)) rfl, rfl, by decide, zclq_0.1.1, zclq_0.1.2, zdpq_29, zclq_0.2⟩
theorem md_T_peakPart : zMd m_T_peakPart := ⟨z_mem (zt_5 (List.mem_of_getElem? (i := 40) rfl)) rfl, rfl, by decide, zclq_0.1.1, zclq_0.1.2, zdpq_29, zclq_0.2⟩
theorem md_Sums_putScaled : zMd m_Sums_putScaled := ⟨z_mem (zt_5 (List.mem_of_getElem? (i := 44) rfl)) rfl, rfl, by decide, zclq_7.1.1, zclq_7.1.2, zdpq_8, zclq_7.2⟩
theorem md_T_greatestDivisor : zMd m_T_greatestDivisor := ⟨z_mem (zt_5 (List.mem_of_getElem? (i := 51) rfl)) rfl, rfl, by decide, zclq_0.1.1, zclq_0.1.2, zdpq_7, zclq_0.2⟩
theorem md_T_local : zMd m_T_local := ⟨z_mem (zt_5 (List.mem_of_getElem? (i := 55) rfl)) rfl, rfl, by decide, zclq_0.1.1, zclq_0.1.2, zdpq_31, zclq_0.2⟩
theorem md_T_units : zMd m_T_units := ⟨z_mem (zt_5 (List.mem_of_getElem? (i := 59) rfl)) rfl, rfl, by decide, zclq_0.1.1, zclq_0.1.2, zdpq_14, zclq_0.2⟩
theorem md_Units_seek : zMd m_Units_seek := ⟨z_mem (zt_5 (List.mem_of_getElem? (i := 63) rfl)) rfl, rfl, by decide, zclq_9.1.1, zclq_9.1.2, zdpq_0, zclq_9.2⟩
theorem md_Units_narrowAt : zMd m_Units_narrowAt := ⟨z_mem (zt_5 (List.mem_of_getElem? (i := 68) rfl)) rfl, rfl, by decide, zclq_9.1.1, zclq_9.1.2, zdpq_1, zclq_9.2⟩
theorem md_Units_bitOf : zMd m_Units_bitOf := ⟨z_mem (zt_5 (List.mem_of_getElem? (i := 77) rfl)) rfl, rfl, by decide, zclq_9.1.1, zclq_9.1.2, zdpq_9, zclq_9.2⟩
theorem md_Units_narrow : zMd m_Units_narrow := ⟨z_mem (zt_5 (List.mem_of_getElem? (i := 82) rfl)) rfl, rfl, by decide, zclq_9.1.1, zclq_9.1.2, zdpq_1, zclq_9.2⟩
theorem md_Units_straighten : zMd m_Units_straighten := ⟨z_mem (zt_5 (List.mem_of_getElem? (i := 87) rfl)) rfl, rfl, by decide, zclq_9.1.1, zclq_9.1.2, zdpq_0, zclq_9.2⟩
theorem md_Units_total : zMd m_Units_total := ⟨z_mem (zt_5 (List.mem_of_getElem? (i := 91) rfl)) rfl, rfl, by decide, zclq_9.1.1, zclq_9.1.2, zdpq_14, zclq_9.2⟩
theorem md_T_unit : zMd m_T_unit := ⟨z_mem (zt_5 (List.mem_of_getElem? (i := 95) rfl)) rfl, rfl, by decide, zclq_0.1.1, zclq_0.1.2, zdpq_7, zclq_0.2⟩
theorem md_Units_signsOf : zMd m_Units_signsOf := ⟨z_mem (zt_5 (List.mem_of_getElem? (i := 99) rfl)) rfl, rfl, by decide, zclq_9.1.1, zclq_9.1.2, zdpq_9, zclq_9.2⟩
theorem md_Sums_putSigns : zMd m_Sums_putSigns := ⟨z_mem (zt_5 (List.mem_of_getElem? (i := 103) rfl)) rfl, rfl, by decide, zclq_7.1.1, zclq_7.1.2, zdpq_1, zclq_7.2⟩
theorem md_T_named : zMd m_T_named := ⟨z_mem (zt_5 (List.mem_of_getElem? (i := 108) rfl)) rfl, rfl, by decide, zclq_0.1.1, zclq_0.1.2, zdpq_27, zclq_0.2⟩
theorem md_Troupe_hasName : zMd m_Troupe_hasName := ⟨z_mem (zt_5 (List.mem_of_getElem? (i := 112) rfl)) rfl, rfl, by decide, zclq_4.1.1, zclq_4.1.2, zdpq_15, zclq_4.2⟩
theorem md_T_has : zMd m_T_has := ⟨z_mem (zt_5 (List.mem_of_getElem? (i := 117) rfl)) rfl, rfl, by decide, zclq_0.1.1, zclq_0.1.2, zdpq_26, zclq_0.2⟩
theorem md_T_marked : zMd m_T_marked := ⟨z_mem (zt_5 (List.mem_of_getElem? (i := 121) rfl)) rfl, rfl, by decide, zclq_0.1.1, zclq_0.1.2, zdpq_26, zclq_0.2⟩
theorem md_T_character : zMd m_T_character := ⟨z_mem (zt_5 (List.mem_of_getElem? (i := 126) rfl)) rfl, rfl, by decide, zclq_0.1.1, zclq_0.1.2, zdpq_26, zclq_0.2⟩
theorem md_T_parts : zMd m_T_parts := ⟨z_mem (zt_5 (List.mem_of_getElem? (i := 130) rfl)) rfl, rfl, by decide, zclq_0.1.1, zclq_0.1.2, zdpq_14, zclq_0.2⟩
theorem md_Sums_partsOf : zMd m_Sums_partsOf := ⟨z_mem (zt_5 (List.mem_of_getElem? (i := 134) rfl)) rfl, rfl, by decide, zclq_7.1.1, zclq_7.1.2, zdpq_9, zclq_7.2⟩
theorem md_T_congruence : zMd m_T_congruence := ⟨z_mem (zt_5 (List.mem_of_getElem? (i := 138) rfl)) rfl, rfl, by decide, zclq_0.1.1, zclq_0.1.2, zdpq_26, zclq_0.2⟩
theorem md_Sums_putMarks : zMd m_Sums_putMarks := ⟨z_mem (zt_5 (List.mem_of_getElem? (i := 142) rfl)) rfl, rfl, by decide, zclq_7.1.1, zclq_7.1.2, zdpq_1, zclq_7.2⟩
theorem md_Sorts_normSize : zMd m_Sorts_normSize := ⟨z_mem (zt_5 (List.mem_of_getElem? (i := 146) rfl)) rfl, rfl, by decide, zclq_6.1.1, zclq_6.1.2, zdpq_9, zclq_6.2⟩
theorem md_Sorts_sumOverNorm : zMd m_Sorts_sumOverNorm := ⟨z_mem (zt_5 (List.mem_of_getElem? (i := 150) rfl)) rfl, rfl, by decide, zclq_6.1.1, zclq_6.1.2, zdpq_32, zclq_6.2⟩
theorem md_T_is : zMd m_T_is := ⟨z_mem (zt_5 (List.mem_of_getElem? (i := 156) rfl)) rfl, rfl, by decide, zclq_0.1.1, zclq_0.1.2, zdpq_9, zclq_0.2⟩
theorem md_Sums_hasNoneBelow : zMd m_Sums_hasNoneBelow := ⟨z_mem (zt_5 (List.mem_of_getElem? (i := 160) rfl)) rfl, rfl, by decide, zclq_7.1.1, zclq_7.1.2, zdpq_15, zclq_7.2⟩
theorem md_Sums_marksAre : zMd m_Sums_marksAre := ⟨z_mem (zt_5 (List.mem_of_getElem? (i := 164) rfl)) rfl, rfl, by decide, zclq_7.1.1, zclq_7.1.2, zdpq_10, zclq_7.2⟩
theorem md_Sums_hasMarkNought : zMd m_Sums_hasMarkNought := ⟨z_mem (zt_5 (List.mem_of_getElem? (i := 168) rfl)) rfl, rfl, by decide, zclq_7.1.1, zclq_7.1.2, zdpq_6, zclq_7.2⟩
theorem md_T_makes : zMd m_T_makes := ⟨z_mem (zt_5 (List.mem_of_getElem? (i := 172) rfl)) rfl, rfl, by decide, zclq_0.1.1, zclq_0.1.2, zdpq_14, zclq_0.2⟩
theorem md_Reader_readWhole : zMd m_Reader_readWhole := ⟨z_mem (zt_5 (List.mem_of_getElem? (i := 176) rfl)) rfl, rfl, by decide, zclq_3.1.1, zclq_3.1.2, zdpq_16, zclq_3.2⟩
theorem md_Troupe_become : zMd m_Troupe_become := ⟨z_mem (zt_5 (List.mem_of_getElem? (i := 180) rfl)) rfl, rfl, by decide, zclq_4.1.1, zclq_4.1.2, zdpq_1, zclq_4.2⟩
theorem md_T_take : zMd m_T_take := ⟨z_mem (zt_5 (List.mem_of_getElem? (i := 185) rfl)) rfl, rfl, by decide, zclq_0.1.1, zclq_0.1.2, zdpq_7, zclq_0.2⟩
theorem md_Group_countKept : zMd m_Group_countKept := ⟨z_mem (zt_5 (List.mem_of_getElem? (i := 189) rfl)) rfl, rfl, by decide, zclq_5.1.1, zclq_5.1.2, zdpq_29, zclq_5.2⟩
theorem md_Group_countSetsKept : zMd m_Group_countSetsKept := ⟨z_mem (zt_5 (List.mem_of_getElem? (i := 193) rfl)) rfl, rfl, by decide, zclq_5.1.1, zclq_5.1.2, zdpq_7, zclq_5.2⟩
theorem md_Group_isSetKept : zMd m_Group_isSetKept := ⟨z_mem (zt_5 (List.mem_of_getElem? (i := 197) rfl)) rfl, rfl, by decide, zclq_5.1.1, zclq_5.1.2, zdpq_10, zclq_5.2⟩
theorem md_Group_power : zMd m_Group_power := ⟨z_mem (zt_5 (List.mem_of_getElem? (i := 201) rfl)) rfl, rfl, by decide, zclq_5.1.1, zclq_5.1.2, zdpq_7, zclq_5.2⟩
theorem md_T_marks : zMd m_T_marks := ⟨z_mem (zt_5 (List.mem_of_getElem? (i := 207) rfl)) rfl, rfl, by decide, zclq_0.1.1, zclq_0.1.2, zdpq_14, zclq_0.2⟩
theorem md_Reader_readRow : zMd m_Reader_readRow := ⟨z_mem (zt_5 (List.mem_of_getElem? (i := 211) rfl)) rfl, rfl, by decide, zclq_3.1.1, zclq_3.1.2, zdpq_33, zclq_3.2⟩
theorem md_Sorts_firstIncongruent : zMd m_Sorts_firstIncongruent := ⟨z_mem (zt_5 (List.mem_of_getElem? (i := 221) rfl)) rfl, rfl, by decide, zclq_6.1.1, zclq_6.1.2, zdpq_34, zclq_6.2⟩
theorem md_T_uses : zMd m_T_uses := ⟨z_mem (zt_5 (List.mem_of_getElem? (i := 227) rfl)) rfl, rfl, by decide, zclq_0.1.1, zclq_0.1.2, zdpq_9, zclq_0.2⟩
theorem md_T_grows : zMd m_T_grows := ⟨z_mem (zt_5 (List.mem_of_getElem? (i := 231) rfl)) rfl, rfl, by decide, zclq_0.1.1, zclq_0.1.2, zdpq_35, zclq_0.2⟩
theorem md_Sums_putGrown : zMd m_Sums_putGrown := ⟨z_mem (zt_5 (List.mem_of_getElem? (i := 235) rfl)) rfl, rfl, by decide, zclq_7.1.1, zclq_7.1.2, zdpq_28, zclq_7.2⟩
theorem md_T_undo : zMd m_T_undo := ⟨z_mem (zt_6 (List.mem_of_getElem? (i := 0) rfl)) rfl, rfl, by decide, zclq_0.1.1, zclq_0.1.2, zdpq_14, zclq_0.2⟩
theorem md_Troupe_takeBack : zMd m_Troupe_takeBack := ⟨z_mem (zt_6 (List.mem_of_getElem? (i := 4) rfl)) rfl, rfl, by decide, zclq_4.1.1, zclq_4.1.2, zdpq_14, zclq_4.2⟩
theorem md_M_init : zMd m_M_init := ⟨z_mem (zt_6 (List.mem_of_getElem? (i := 9) rfl)) rfl, rfl, by decide, zclq_16.1.1, zclq_16.1.2, zdpq_0, zclq_16.2⟩
theorem md_M_builds : zMd m_M_builds := ⟨z_mem (zt_6 (List.mem_of_getElem? (i := 15) rfl)) rfl, rfl, by decide, zclq_16.1.1, zclq_16.1.2, zdpq_0, zclq_16.2⟩
theorem md_M_buildsMembers : zMd m_M_buildsMembers := ⟨z_mem (zt_6 (List.mem_of_getElem? (i := 19) rfl)) rfl, rfl, by decide, zclq_16.1.1, zclq_16.1.2, zdpq_6, zclq_16.2⟩
theorem md_M_indexOf : zMd m_M_indexOf := ⟨z_mem (zt_6 (List.mem_of_getElem? (i := 23) rfl)) rfl, rfl, by decide, zclq_16.1.1, zclq_16.1.2, zdpq_14, zclq_16.2⟩
theorem md_M_isBehind : zMd m_M_isBehind := ⟨z_mem (zt_6 (List.mem_of_getElem? (i := 27) rfl)) rfl, rfl, by decide, zclq_16.1.1, zclq_16.1.2, zdpq_10, zclq_16.2⟩
theorem md_M_exchanges : zMd m_M_exchanges := ⟨z_mem (zt_6 (List.mem_of_getElem? (i := 31) rfl)) rfl, rfl, by decide, zclq_16.1.1, zclq_16.1.2, zdpq_8, zclq_16.2⟩
theorem md_M_holds : zMd m_M_holds := ⟨z_mem (zt_6 (List.mem_of_getElem? (i := 34) rfl)) rfl, rfl, by decide, zclq_16.1.1, zclq_16.1.2, zdpq_10, zclq_16.2⟩
theorem md_M_closed : zMd m_M_closed := ⟨z_mem (zt_6 (List.mem_of_getElem? (i := 38) rfl)) rfl, rfl, by decide, zclq_16.1.1, zclq_16.1.2, zdpq_9, zclq_16.2⟩
theorem md_M_by : zMd m_M_by := ⟨z_mem (zt_6 (List.mem_of_getElem? (i := 42) rfl)) rfl, rfl, by decide, zclq_16.1.1, zclq_16.1.2, zdpq_7, zclq_16.2⟩
theorem md_M_subIndex : zMd m_M_subIndex := ⟨z_mem (zt_6 (List.mem_of_getElem? (i := 46) rfl)) rfl, rfl, by decide, zclq_16.1.1, zclq_16.1.2, zdpq_9, zclq_16.2⟩
theorem md_M_leastTurned : zMd m_M_leastTurned := ⟨z_mem (zt_6 (List.mem_of_getElem? (i := 50) rfl)) rfl, rfl, by decide, zclq_16.1.1, zclq_16.1.2, zdpq_9, zclq_16.2⟩
theorem md_M_turned : zMd m_M_turned := ⟨z_mem (zt_6 (List.mem_of_getElem? (i := 54) rfl)) rfl, rfl, by decide, zclq_16.1.1, zclq_16.1.2, zdpq_7, zclq_16.2⟩
theorem md_M_comesSort : zMd m_M_comesSort := ⟨z_mem (zt_6 (List.mem_of_getElem? (i := 58) rfl)) rfl, rfl, by decide, zclq_16.1.1, zclq_16.1.2, zdpq_1, zclq_16.2⟩
theorem md_M_ones : zMd m_M_ones := ⟨z_mem (zt_6 (List.mem_of_getElem? (i := 61) rfl)) rfl, rfl, by decide, zclq_16.1.1, zclq_16.1.2, zdpq_9, zclq_16.2⟩
theorem md_M_sortOfFirst : zMd m_M_sortOfFirst := ⟨z_mem (zt_6 (List.mem_of_getElem? (i := 65) rfl)) rfl, rfl, by decide, zclq_16.1.1, zclq_16.1.2, zdpq_9, zclq_16.2⟩
theorem md_M_leastOf : zMd m_M_leastOf := ⟨z_mem (zt_6 (List.mem_of_getElem? (i := 69) rfl)) rfl, rfl, by decide, zclq_16.1.1, zclq_16.1.2, zdpq_7, zclq_16.2⟩
theorem md_M_fixedOf : zMd m_M_fixedOf := ⟨z_mem (zt_6 (List.mem_of_getElem? (i := 73) rfl)) rfl, rfl, by decide, zclq_16.1.1, zclq_16.1.2, zdpq_7, zclq_16.2⟩
theorem md_M_truth : zMd m_M_truth := ⟨z_mem (zt_6 (List.mem_of_getElem? (i := 76) rfl)) rfl, rfl, by decide, zclq_16.1.1, zclq_16.1.2, zdpq_36, zclq_16.2⟩
theorem md_M_inForce : zMd m_M_inForce := ⟨z_mem (zt_6 (List.mem_of_getElem? (i := 80) rfl)) rfl, rfl, by decide, zclq_16.1.1, zclq_16.1.2, zdpq_0, zclq_16.2⟩
theorem md_M_feed : zMd m_M_feed := ⟨z_mem (zt_7 (List.mem_of_getElem? (i := 43) rfl)) rfl, rfl, by decide, zclq_16.1.1, zclq_16.1.2, zdpq_13, zclq_16.2⟩
theorem md_M_four : zMd m_M_four := ⟨z_mem (zt_7 (List.mem_of_getElem? (i := 47) rfl)) rfl, rfl, by decide, zclq_16.1.1, zclq_16.1.2, zdpq_1, zclq_16.2⟩
theorem md_M_end : zMd m_M_end := ⟨z_mem (zt_7 (List.mem_of_getElem? (i := 51) rfl)) rfl, rfl, by decide, zclq_16.1.1, zclq_16.1.2, zdpq_9, zclq_16.2⟩
theorem md_M_isIn : zMd m_M_isIn := ⟨z_mem (zt_7 (List.mem_of_getElem? (i := 54) rfl)) rfl, rfl, by decide, zclq_16.1.1, zclq_16.1.2, zdpq_37, zclq_16.2⟩
theorem md_M_troupe : zMd m_M_troupe := ⟨z_mem (zt_7 (List.mem_of_getElem? (i := 58) rfl)) rfl, rfl, by decide, zclq_16.1.1, zclq_16.1.2, zdpq_14, zclq_16.2⟩
theorem md_M_begins : zMd m_M_begins := ⟨z_mem (zt_7 (List.mem_of_getElem? (i := 62) rfl)) rfl, rfl, by decide, zclq_16.1.1, zclq_16.1.2, zdpq_0, zclq_16.2⟩
theorem md_M_goOn : zMd m_M_goOn := ⟨z_mem (zt_7 (List.mem_of_getElem? (i := 66) rfl)) rfl, rfl, by decide, zclq_16.1.1, zclq_16.1.2, zdpq_0, zclq_16.2⟩
theorem md_M_here : zMd m_M_here := ⟨z_mem (zt_7 (List.mem_of_getElem? (i := 70) rfl)) rfl, rfl, by decide, zclq_16.1.1, zclq_16.1.2, zdpq_9, zclq_16.2⟩
theorem md_M_isLetter : zMd m_M_isLetter := ⟨z_mem (zt_7 (List.mem_of_getElem? (i := 73) rfl)) rfl, rfl, by decide, zclq_16.1.1, zclq_16.1.2, zdpq_15, zclq_16.2⟩
theorem md_M_isDigit : zMd m_M_isDigit := ⟨z_mem (zt_7 (List.mem_of_getElem? (i := 76) rfl)) rfl, rfl, by decide, zclq_16.1.1, zclq_16.1.2, zdpq_15, zclq_16.2⟩
theorem md_M_isSign : zMd m_M_isSign := ⟨z_mem (zt_7 (List.mem_of_getElem? (i := 79) rfl)) rfl, rfl, by decide, zclq_16.1.1, zclq_16.1.2, zdpq_15, zclq_16.2⟩
theorem md_M_reads : zMd m_M_reads := ⟨z_mem (zt_7 (List.mem_of_getElem? (i := 83) rfl)) rfl, rfl, by decide, zclq_16.1.1, zclq_16.1.2, zdpq_0, zclq_16.2⟩
theorem md_M_isWord : zMd m_M_isWord := ⟨z_mem (zt_7 (List.mem_of_getElem? (i := 88) rfl)) rfl, rfl, by decide, zclq_16.1.1, zclq_16.1.2, zdpq_38, zclq_16.2⟩
theorem md_M_wrong : zMd m_M_wrong := ⟨z_mem (zt_7 (List.mem_of_getElem? (i := 92) rfl)) rfl, rfl, by decide, zclq_16.1.1, zclq_16.1.2, zdpq_1, zclq_16.2⟩
theorem md_M_wrongAt : zMd m_M_wrongAt := ⟨z_mem (zt_7 (List.mem_of_getElem? (i := 96) rfl)) rfl, rfl, by decide, zclq_16.1.1, zclq_16.1.2, zdpq_8, zclq_16.2⟩
theorem md_M_isGood : zMd m_M_isGood := ⟨z_mem (zt_7 (List.mem_of_getElem? (i := 100) rfl)) rfl, rfl, by decide, zclq_16.1.1, zclq_16.1.2, zdpq_6, zclq_16.2⟩
theorem md_M_number : zMd m_M_number := ⟨z_mem (zt_7 (List.mem_of_getElem? (i := 104) rfl)) rfl, rfl, by decide, zclq_16.1.1, zclq_16.1.2, zdpq_7, zclq_16.2⟩
theorem md_M_must : zMd m_M_must := ⟨z_mem (zt_7 (List.mem_of_getElem? (i := 108) rfl)) rfl, rfl, by decide, zclq_16.1.1, zclq_16.1.2, zdpq_1, zclq_16.2⟩
theorem md_M_isSignHere : zMd m_M_isSignHere := ⟨z_mem (zt_7 (List.mem_of_getElem? (i := 112) rfl)) rfl, rfl, by decide, zclq_16.1.1, zclq_16.1.2, zdpq_15, zclq_16.2⟩
theorem md_M_moveLine : zMd m_M_moveLine := ⟨z_mem (zt_7 (List.mem_of_getElem? (i := 117) rfl)) rfl, rfl, by decide, zclq_16.1.1, zclq_16.1.2, zdpq_0, zclq_16.2⟩
theorem md_M_letLine : zMd m_M_letLine := ⟨z_mem (zt_7 (List.mem_of_getElem? (i := 122) rfl)) rfl, rfl, by decide, zclq_16.1.1, zclq_16.1.2, zdpq_0, zclq_16.2⟩
theorem md_M_isName : zMd m_M_isName := ⟨z_mem (zt_7 (List.mem_of_getElem? (i := 126) rfl)) rfl, rfl, by decide, zclq_16.1.1, zclq_16.1.2, zdpq_6, zclq_16.2⟩
theorem md_M_nameAt : zMd m_M_nameAt := ⟨z_mem (zt_7 (List.mem_of_getElem? (i := 131) rfl)) rfl, rfl, by decide, zclq_16.1.1, zclq_16.1.2, zdpq_14, zclq_16.2⟩
theorem md_M_formula : zMd m_M_formula := ⟨z_mem (zt_7 (List.mem_of_getElem? (i := 135) rfl)) rfl, rfl, by decide, zclq_16.1.1, zclq_16.1.2, zdpq_0, zclq_16.2⟩
theorem md_M_operand : zMd m_M_operand := ⟨z_mem (zt_7 (List.mem_of_getElem? (i := 139) rfl)) rfl, rfl, by decide, zclq_16.1.1, zclq_16.1.2, zdpq_6, zclq_16.2⟩
theorem md_M_countsUnit : zMd m_M_countsUnit := ⟨z_mem (zt_7 (List.mem_of_getElem? (i := 143) rfl)) rfl, rfl, by decide, zclq_16.1.1, zclq_16.1.2, zdpq_0, zclq_16.2⟩
theorem md_M_lays : zMd m_M_lays := ⟨z_mem (zt_7 (List.mem_of_getElem? (i := 147) rfl)) rfl, rfl, by decide, zclq_16.1.1, zclq_16.1.2, zdpq_12, zclq_16.2⟩
theorem md_M_looks : zMd m_M_looks := ⟨z_mem (zt_7 (List.mem_of_getElem? (i := 151) rfl)) rfl, rfl, by decide, zclq_16.1.1, zclq_16.1.2, zdpq_0, zclq_16.2⟩
theorem md_M_isFit : zMd m_M_isFit := ⟨z_mem (zt_7 (List.mem_of_getElem? (i := 155) rfl)) rfl, rfl, by decide, zclq_16.1.1, zclq_16.1.2, zdpq_39, zclq_16.2⟩
theorem md_M_markAt : zMd m_M_markAt := ⟨z_mem (zt_7 (List.mem_of_getElem? (i := 161) rfl)) rfl, rfl, by decide, zclq_16.1.1, zclq_16.1.2, zdpq_40, zclq_16.2⟩
theorem md_M_closes : zMd m_M_closes := ⟨z_mem (zt_7 (List.mem_of_getElem? (i := 165) rfl)) rfl, rfl, by decide, zclq_16.1.1, zclq_16.1.2, zdpq_0, zclq_16.2⟩
theorem md_M_powers : zMd m_M_powers := ⟨z_mem (zt_7 (List.mem_of_getElem? (i := 169) rfl)) rfl, rfl, by decide, zclq_16.1.1, zclq_16.1.2, zdpq_1, zclq_16.2⟩
theorem md_M_marksOf : zMd m_M_marksOf := ⟨z_mem (zt_7 (List.mem_of_getElem? (i := 173) rfl)) rfl, rfl, by decide, zclq_16.1.1, zclq_16.1.2, zdpq_41, zclq_16.2⟩
theorem md_M_multiplies : zMd m_M_multiplies := ⟨z_mem (zt_7 (List.mem_of_getElem? (i := 177) rfl)) rfl, rfl, by decide, zclq_16.1.1, zclq_16.1.2, zdpq_0, zclq_16.2⟩
theorem md_M_numbers : zMd m_M_numbers := ⟨z_mem (zt_7 (List.mem_of_getElem? (i := 181) rfl)) rfl, rfl, by decide, zclq_16.1.1, zclq_16.1.2, zdpq_42, zclq_16.2⟩
theorem md_M_negates : zMd m_M_negates := ⟨z_mem (zt_7 (List.mem_of_getElem? (i := 185) rfl)) rfl, rfl, by decide, zclq_16.1.1, zclq_16.1.2, zdpq_0, zclq_16.2⟩
theorem md_M_goesOn : zMd m_M_goesOn := ⟨z_mem (zt_7 (List.mem_of_getElem? (i := 189) rfl)) rfl, rfl, by decide, zclq_16.1.1, zclq_16.1.2, zdpq_6, zclq_16.2⟩
theorem md_M_waitsFor : zMd m_M_waitsFor := ⟨z_mem (zt_7 (List.mem_of_getElem? (i := 193) rfl)) rfl, rfl, by decide, zclq_16.1.1, zclq_16.1.2, zdpq_1, zclq_16.2⟩
theorem md_M_works : zMd m_M_works := ⟨z_mem (zt_7 (List.mem_of_getElem? (i := 197) rfl)) rfl, rfl, by decide, zclq_16.1.1, zclq_16.1.2, zdpq_1, zclq_16.2⟩
theorem md_M_timesTwo : zMd m_M_timesTwo := ⟨z_mem (zt_7 (List.mem_of_getElem? (i := 201) rfl)) rfl, rfl, by decide, zclq_16.1.1, zclq_16.1.2, zdpq_0, zclq_16.2⟩
theorem md_M_adds : zMd m_M_adds := ⟨z_mem (zt_7 (List.mem_of_getElem? (i := 205) rfl)) rfl, rfl, by decide, zclq_16.1.1, zclq_16.1.2, zdpq_1, zclq_16.2⟩
theorem md_M_isOpen : zMd m_M_isOpen := ⟨z_mem (zt_7 (List.mem_of_getElem? (i := 209) rfl)) rfl, rfl, by decide, zclq_16.1.1, zclq_16.1.2, zdpq_6, zclq_16.2⟩
theorem md_M_tells : zMd m_M_tells := ⟨z_mem (zt_7 (List.mem_of_getElem? (i := 213) rfl)) rfl, rfl, by decide, zclq_16.1.1, zclq_16.1.2, zdpq_0, zclq_16.2⟩
theorem md_M_goesBack : zMd m_M_goesBack := ⟨z_mem (zt_7 (List.mem_of_getElem? (i := 217) rfl)) rfl, rfl, by decide, zclq_16.1.1, zclq_16.1.2, zdpq_0, zclq_16.2⟩
theorem md_M_fault : zMd m_M_fault := ⟨z_mem (zt_7 (List.mem_of_getElem? (i := 221) rfl)) rfl, rfl, by decide, zclq_16.1.1, zclq_16.1.2, zdpq_9, zclq_16.2⟩
theorem md_M_about : zMd m_M_about := ⟨z_mem (zt_7 (List.mem_of_getElem? (i := 225) rfl)) rfl, rfl, by decide, zclq_16.1.1, zclq_16.1.2, zdpq_9, zclq_16.2⟩
theorem md_M_areAlike : zMd m_M_areAlike := ⟨z_mem (zt_7 (List.mem_of_getElem? (i := 229) rfl)) rfl, rfl, by decide, zclq_16.1.1, zclq_16.1.2, zdpq_15, zclq_16.2⟩
theorem md_M_moves : zMd m_M_moves := ⟨z_mem (zt_7 (List.mem_of_getElem? (i := 233) rfl)) rfl, rfl, by decide, zclq_16.1.1, zclq_16.1.2, zdpq_7, zclq_16.2⟩
theorem md_M_isMember : zMd m_M_isMember := ⟨z_mem (zt_7 (List.mem_of_getElem? (i := 237) rfl)) rfl, rfl, by decide, zclq_16.1.1, zclq_16.1.2, zdpq_15, zclq_16.2⟩
theorem md_M_times : zMd m_M_times := ⟨z_mem (zt_8 (List.mem_of_getElem? (i := 1) rfl)) rfl, rfl, by decide, zclq_16.1.1, zclq_16.1.2, zdpq_7, zclq_16.2⟩
theorem md_M_order : zMd m_M_order := ⟨z_mem (zt_8 (List.mem_of_getElem? (i := 5) rfl)) rfl, rfl, by decide, zclq_16.1.1, zclq_16.1.2, zdpq_9, zclq_16.2⟩
theorem md_M_timesOf : zMd m_M_timesOf := ⟨z_mem (zt_8 (List.mem_of_getElem? (i := 9) rfl)) rfl, rfl, by decide, zclq_16.1.1, zclq_16.1.2, zdpq_9, zclq_16.2⟩
theorem md_M_orders : zMd m_M_orders := ⟨z_mem (zt_8 (List.mem_of_getElem? (i := 13) rfl)) rfl, rfl, by decide, zclq_16.1.1, zclq_16.1.2, zdpq_9, zclq_16.2⟩
theorem md_M_alike : zMd m_M_alike := ⟨z_mem (zt_8 (List.mem_of_getElem? (i := 18) rfl)) rfl, rfl, by decide, zclq_16.1.1, zclq_16.1.2, zdpq_14, zclq_16.2⟩
theorem md_M_makesOf : zMd m_M_makesOf := ⟨z_mem (zt_8 (List.mem_of_getElem? (i := 22) rfl)) rfl, rfl, by decide, zclq_16.1.1, zclq_16.1.2, zdpq_9, zclq_16.2⟩
theorem md_M_areMembers : zMd m_M_areMembers := ⟨z_mem (zt_8 (List.mem_of_getElem? (i := 26) rfl)) rfl, rfl, by decide, zclq_16.1.1, zclq_16.1.2, zdpq_15, zclq_16.2⟩
theorem md_M_sortOf : zMd m_M_sortOf := ⟨z_mem (zt_8 (List.mem_of_getElem? (i := 30) rfl)) rfl, rfl, by decide, zclq_16.1.1, zclq_16.1.2, zdpq_9, zclq_16.2⟩
theorem md_M_sortOfSet : zMd m_M_sortOfSet := ⟨z_mem (zt_8 (List.mem_of_getElem? (i := 34) rfl)) rfl, rfl, by decide, zclq_16.1.1, zclq_16.1.2, zdpq_9, zclq_16.2⟩
theorem md_M_sort : zMd m_M_sort := ⟨z_mem (zt_8 (List.mem_of_getElem? (i := 38) rfl)) rfl, rfl, by decide, zclq_16.1.1, zclq_16.1.2, zdpq_7, zclq_16.2⟩
theorem md_M_isSort : zMd m_M_isSort := ⟨z_mem (zt_8 (List.mem_of_getElem? (i := 42) rfl)) rfl, rfl, by decide, zclq_16.1.1, zclq_16.1.2, zdpq_15, zclq_16.2⟩
theorem md_M_normOf : zMd m_M_normOf := ⟨z_mem (zt_8 (List.mem_of_getElem? (i := 46) rfl)) rfl, rfl, by decide, zclq_16.1.1, zclq_16.1.2, zdpq_9, zclq_16.2⟩
theorem md_M_isOfOne : zMd m_M_isOfOne := ⟨z_mem (zt_8 (List.mem_of_getElem? (i := 50) rfl)) rfl, rfl, by decide, zclq_16.1.1, zclq_16.1.2, zdpq_15, zclq_16.2⟩
theorem md_M_meet : zMd m_M_meet := ⟨z_mem (zt_8 (List.mem_of_getElem? (i := 54) rfl)) rfl, rfl, by decide, zclq_16.1.1, zclq_16.1.2, zdpq_7, zclq_16.2⟩
theorem md_M_join : zMd m_M_join := ⟨z_mem (zt_8 (List.mem_of_getElem? (i := 58) rfl)) rfl, rfl, by decide, zclq_16.1.1, zclq_16.1.2, zdpq_7, zclq_16.2⟩
theorem md_M_within : zMd m_M_within := ⟨z_mem (zt_8 (List.mem_of_getElem? (i := 62) rfl)) rfl, rfl, by decide, zclq_16.1.1, zclq_16.1.2, zdpq_7, zclq_16.2⟩
theorem md_M_mark : zMd m_M_mark := ⟨z_mem (zt_8 (List.mem_of_getElem? (i := 66) rfl)) rfl, rfl, by decide, zclq_16.1.1, zclq_16.1.2, zdpq_7, zclq_16.2⟩
theorem md_M_product : zMd m_M_product := ⟨z_mem (zt_8 (List.mem_of_getElem? (i := 70) rfl)) rfl, rfl, by decide, zclq_16.1.1, zclq_16.1.2, zdpq_29, zclq_16.2⟩
theorem md_M_worksProduct : zMd m_M_worksProduct := ⟨z_mem (zt_8 (List.mem_of_getElem? (i := 74) rfl)) rfl, rfl, by decide, zclq_16.1.1, zclq_16.1.2, zdpq_8, zclq_16.2⟩
theorem md_M_pairs : zMd m_M_pairs := ⟨z_mem (zt_8 (List.mem_of_getElem? (i := 78) rfl)) rfl, rfl, by decide, zclq_16.1.1, zclq_16.1.2, zdpq_7, zclq_16.2⟩
theorem md_M_residue : zMd m_M_residue := ⟨z_mem (zt_8 (List.mem_of_getElem? (i := 82) rfl)) rfl, rfl, by decide, zclq_16.1.1, zclq_16.1.2, zdpq_7, zclq_16.2⟩
theorem md_M_isPrime : zMd m_M_isPrime := ⟨z_mem (zt_8 (List.mem_of_getElem? (i := 85) rfl)) rfl, rfl, by decide, zclq_16.1.1, zclq_16.1.2, zdpq_15, zclq_16.2⟩
theorem md_M_residueOf : zMd m_M_residueOf := ⟨z_mem (zt_8 (List.mem_of_getElem? (i := 89) rfl)) rfl, rfl, by decide, zclq_16.1.1, zclq_16.1.2, zdpq_7, zclq_16.2⟩
theorem md_M_block : zMd m_M_block := ⟨z_mem (zt_8 (List.mem_of_getElem? (i := 93) rfl)) rfl, rfl, by decide, zclq_16.1.1, zclq_16.1.2, zdpq_7, zclq_16.2⟩
theorem md_M_blockOf : zMd m_M_blockOf := ⟨z_mem (zt_8 (List.mem_of_getElem? (i := 97) rfl)) rfl, rfl, by decide, zclq_16.1.1, zclq_16.1.2, zdpq_7, zclq_16.2⟩
theorem md_M_keeper : zMd m_M_keeper := ⟨z_mem (zt_8 (List.mem_of_getElem? (i := 101) rfl)) rfl, rfl, by decide, zclq_16.1.1, zclq_16.1.2, zdpq_9, zclq_16.2⟩
theorem md_M_orbit : zMd m_M_orbit := ⟨z_mem (zt_8 (List.mem_of_getElem? (i := 105) rfl)) rfl, rfl, by decide, zclq_16.1.1, zclq_16.1.2, zdpq_9, zclq_16.2⟩
theorem md_M_coset : zMd m_M_coset := ⟨z_mem (zt_8 (List.mem_of_getElem? (i := 109) rfl)) rfl, rfl, by decide, zclq_16.1.1, zclq_16.1.2, zdpq_7, zclq_16.2⟩
theorem md_M_takes : zMd m_M_takes := ⟨z_mem (zt_8 (List.mem_of_getElem? (i := 113) rfl)) rfl, rfl, by decide, zclq_16.1.1, zclq_16.1.2, zdpq_29, zclq_16.2⟩
theorem md_M_moebius : zMd m_M_moebius := ⟨z_mem (zt_8 (List.mem_of_getElem? (i := 117) rfl)) rfl, rfl, by decide, zclq_16.1.1, zclq_16.1.2, zdpq_9, zclq_16.2⟩
theorem md_M_mixed : zMd m_M_mixed := ⟨z_mem (zt_8 (List.mem_of_getElem? (i := 122) rfl)) rfl, rfl, by decide, zclq_16.1.1, zclq_16.1.2, zdpq_9, zclq_16.2⟩
theorem md_M_centre : zMd m_M_centre := ⟨z_mem (zt_8 (List.mem_of_getElem? (i := 126) rfl)) rfl, rfl, by decide, zclq_16.1.1, zclq_16.1.2, zdpq_9, zclq_16.2⟩
theorem md_M_likes : zMd m_M_likes := ⟨z_mem (zt_8 (List.mem_of_getElem? (i := 130) rfl)) rfl, rfl, by decide, zclq_16.1.1, zclq_16.1.2, zdpq_9, zclq_16.2⟩
theorem md_M_peak : zMd m_M_peak := ⟨z_mem (zt_8 (List.mem_of_getElem? (i := 134) rfl)) rfl, rfl, by decide, zclq_16.1.1, zclq_16.1.2, zdpq_29, zclq_16.2⟩
theorem md_M_peaks : zMd m_M_peaks := ⟨z_mem (zt_8 (List.mem_of_getElem? (i := 138) rfl)) rfl, rfl, by decide, zclq_16.1.1, zclq_16.1.2, zdpq_1, zclq_16.2⟩
theorem md_M_sumWith : zMd m_M_sumWith := ⟨z_mem (zt_8 (List.mem_of_getElem? (i := 142) rfl)) rfl, rfl, by decide, zclq_16.1.1, zclq_16.1.2, zdpq_43, zclq_16.2⟩
theorem md_M_divisor : zMd m_M_divisor := ⟨z_mem (zt_8 (List.mem_of_getElem? (i := 145) rfl)) rfl, rfl, by decide, zclq_16.1.1, zclq_16.1.2, zdpq_44, zclq_16.2⟩
theorem md_M_local : zMd m_M_local := ⟨z_mem (zt_8 (List.mem_of_getElem? (i := 149) rfl)) rfl, rfl, by decide, zclq_16.1.1, zclq_16.1.2, zdpq_31, zclq_16.2⟩
theorem md_M_units : zMd m_M_units := ⟨z_mem (zt_8 (List.mem_of_getElem? (i := 153) rfl)) rfl, rfl, by decide, zclq_16.1.1, zclq_16.1.2, zdpq_14, zclq_16.2⟩
theorem md_M_laysUnits : zMd m_M_laysUnits := ⟨z_mem (zt_8 (List.mem_of_getElem? (i := 157) rfl)) rfl, rfl, by decide, zclq_16.1.1, zclq_16.1.2, zdpq_0, zclq_16.2⟩
theorem md_M_laysMade : zMd m_M_laysMade := ⟨z_mem (zt_8 (List.mem_of_getElem? (i := 161) rfl)) rfl, rfl, by decide, zclq_16.1.1, zclq_16.1.2, zdpq_1, zclq_16.2⟩
theorem md_M_isUnitAt : zMd m_M_isUnitAt := ⟨z_mem (zt_8 (List.mem_of_getElem? (i := 165) rfl)) rfl, rfl, by decide, zclq_16.1.1, zclq_16.1.2, zdpq_10, zclq_16.2⟩
theorem md_M_unit : zMd m_M_unit := ⟨z_mem (zt_8 (List.mem_of_getElem? (i := 169) rfl)) rfl, rfl, by decide, zclq_16.1.1, zclq_16.1.2, zdpq_7, zclq_16.2⟩
theorem md_M_undo : zMd m_M_undo := ⟨z_mem (zt_8 (List.mem_of_getElem? (i := 174) rfl)) rfl, rfl, by decide, zclq_16.1.1, zclq_16.1.2, zdpq_14, zclq_16.2⟩
theorem md_M_named : zMd m_M_named := ⟨z_mem (zt_8 (List.mem_of_getElem? (i := 178) rfl)) rfl, rfl, by decide, zclq_16.1.1, zclq_16.1.2, zdpq_27, zclq_16.2⟩
theorem md_M_has : zMd m_M_has := ⟨z_mem (zt_8 (List.mem_of_getElem? (i := 183) rfl)) rfl, rfl, by decide, zclq_16.1.1, zclq_16.1.2, zdpq_26, zclq_16.2⟩
theorem md_M_marked : zMd m_M_marked := ⟨z_mem (zt_8 (List.mem_of_getElem? (i := 187) rfl)) rfl, rfl, by decide, zclq_16.1.1, zclq_16.1.2, zdpq_26, zclq_16.2⟩
theorem md_M_character : zMd m_M_character := ⟨z_mem (zt_8 (List.mem_of_getElem? (i := 191) rfl)) rfl, rfl, by decide, zclq_16.1.1, zclq_16.1.2, zdpq_26, zclq_16.2⟩
theorem md_M_parts : zMd m_M_parts := ⟨z_mem (zt_8 (List.mem_of_getElem? (i := 195) rfl)) rfl, rfl, by decide, zclq_16.1.1, zclq_16.1.2, zdpq_14, zclq_16.2⟩
theorem md_M_congruence : zMd m_M_congruence := ⟨z_mem (zt_8 (List.mem_of_getElem? (i := 199) rfl)) rfl, rfl, by decide, zclq_16.1.1, zclq_16.1.2, zdpq_26, zclq_16.2⟩
theorem md_M_laysMarks : zMd m_M_laysMarks := ⟨z_mem (zt_8 (List.mem_of_getElem? (i := 203) rfl)) rfl, rfl, by decide, zclq_16.1.1, zclq_16.1.2, zdpq_0, zclq_16.2⟩
theorem md_M_congruenceOf : zMd m_M_congruenceOf := ⟨z_mem (zt_8 (List.mem_of_getElem? (i := 207) rfl)) rfl, rfl, by decide, zclq_16.1.1, zclq_16.1.2, zdpq_45, zclq_16.2⟩
theorem md_M_is : zMd m_M_is := ⟨z_mem (zt_8 (List.mem_of_getElem? (i := 211) rfl)) rfl, rfl, by decide, zclq_16.1.1, zclq_16.1.2, zdpq_9, zclq_16.2⟩
theorem md_M_makes : zMd m_M_makes := ⟨z_mem (zt_8 (List.mem_of_getElem? (i := 216) rfl)) rfl, rfl, by decide, zclq_16.1.1, zclq_16.1.2, zdpq_14, zclq_16.2⟩
theorem md_M_act : zMd m_M_act := ⟨z_mem (zt_8 (List.mem_of_getElem? (i := 220) rfl)) rfl, rfl, by decide, zclq_16.1.1, zclq_16.1.2, zdpq_0, zclq_16.2⟩
theorem md_M_take : zMd m_M_take := ⟨z_mem (zt_8 (List.mem_of_getElem? (i := 225) rfl)) rfl, rfl, by decide, zclq_16.1.1, zclq_16.1.2, zdpq_7, zclq_16.2⟩
theorem md_M_laysParts : zMd m_M_laysParts := ⟨z_mem (zt_8 (List.mem_of_getElem? (i := 231) rfl)) rfl, rfl, by decide, zclq_16.1.1, zclq_16.1.2, zdpq_1, zclq_16.2⟩
theorem md_M_fixedBy : zMd m_M_fixedBy := ⟨z_mem (zt_8 (List.mem_of_getElem? (i := 235) rfl)) rfl, rfl, by decide, zclq_16.1.1, zclq_16.1.2, zdpq_27, zclq_16.2⟩
theorem md_M_setsOf : zMd m_M_setsOf := ⟨z_mem (zt_8 (List.mem_of_getElem? (i := 239) rfl)) rfl, rfl, by decide, zclq_16.1.1, zclq_16.1.2, zdpq_9, zclq_16.2⟩
theorem md_M_marks : zMd m_M_marks := ⟨z_mem (zt_9 (List.mem_of_getElem? (i := 3) rfl)) rfl, rfl, by decide, zclq_16.1.1, zclq_16.1.2, zdpq_14, zclq_16.2⟩
theorem md_M_readsMarks : zMd m_M_readsMarks := ⟨z_mem (zt_9 (List.mem_of_getElem? (i := 7) rfl)) rfl, rfl, by decide, zclq_16.1.1, zclq_16.1.2, zdpq_15, zclq_16.2⟩
theorem md_M_isBlank : zMd m_M_isBlank := ⟨z_mem (zt_9 (List.mem_of_getElem? (i := 11) rfl)) rfl, rfl, by decide, zclq_16.1.1, zclq_16.1.2, zdpq_15, zclq_16.2⟩
theorem md_M_readsNumber : zMd m_M_readsNumber := ⟨z_mem (zt_9 (List.mem_of_getElem? (i := 15) rfl)) rfl, rfl, by decide, zclq_16.1.1, zclq_16.1.2, zdpq_15, zclq_16.2⟩
theorem md_M_uses : zMd m_M_uses := ⟨z_mem (zt_9 (List.mem_of_getElem? (i := 21) rfl)) rfl, rfl, by decide, zclq_16.1.1, zclq_16.1.2, zdpq_9, zclq_16.2⟩
theorem md_M_grows : zMd m_M_grows := ⟨z_mem (zt_9 (List.mem_of_getElem? (i := 25) rfl)) rfl, rfl, by decide, zclq_16.1.1, zclq_16.1.2, zdpq_35, zclq_16.2⟩
theorem l_T_9 : zMLI 0 9 m_Tokens_init := ⟨Or.inr ⟨"TroupeSums", z_memN (zt_1 (List.mem_of_getElem? (i := 29) rfl)) rfl⟩, z_mem (zt_1 (List.mem_of_getElem? (i := 30) rfl)) rfl, rfl, rfl, md_Tokens_init⟩
theorem l_T_18 : zMLI 0 18 m_Reader_init := ⟨Or.inl (z_mem (zt_1 (List.mem_of_getElem? (i := 74) rfl)) rfl), z_mem (zt_1 (List.mem_of_getElem? (i := 75) rfl)) rfl, rfl, rfl, md_Reader_init⟩
theorem l_T_27 : zMLI 0 27 m_Troupe_init := ⟨Or.inr ⟨"TroupeSums", z_memN (zt_1 (List.mem_of_getElem? (i := 95) rfl)) rfl⟩, z_mem (zt_1 (List.mem_of_getElem? (i := 96) rfl)) rfl, rfl, rfl, md_Troupe_init⟩
theorem l_T_35 : zMLV 0 35 m_Troupe_begin := ⟨Or.inl (z_mem (zt_2 (List.mem_of_getElem? (i := 70) rfl)) rfl), z_mem (zt_2 (List.mem_of_getElem? (i := 71) rfl)) rfl, z_mem (zt_2 (List.mem_of_getElem? (i := 72) rfl)) rfl, md_Troupe_begin⟩
theorem l_T_39 : zMLV 0 39 m_Troupe_settle := ⟨Or.inl (z_mem (zt_2 (List.mem_of_getElem? (i := 104) rfl)) rfl), z_mem (zt_2 (List.mem_of_getElem? (i := 105) rfl)) rfl, z_mem (zt_2 (List.mem_of_getElem? (i := 106) rfl)) rfl, md_Troupe_settle⟩
theorem l_T_46 : zMLV 0 46 m_Tokens_append := ⟨Or.inl (z_mem (zt_2 (List.mem_of_getElem? (i := 207) rfl)) rfl), z_mem (zt_2 (List.mem_of_getElem? (i := 208) rfl)) rfl, z_mem (zt_2 (List.mem_of_getElem? (i := 209) rfl)) rfl, md_Tokens_append⟩
theorem l_T_49 : zMLV 0 49 m_Reader_begin := ⟨Or.inl (z_mem (zt_2 (List.mem_of_getElem? (i := 220) rfl)) rfl), z_mem (zt_2 (List.mem_of_getElem? (i := 221) rfl)) rfl, z_mem (zt_2 (List.mem_of_getElem? (i := 222) rfl)) rfl, md_Reader_begin⟩
theorem l_T_51 : zMLV 0 51 m_Reader_readPlaces := ⟨Or.inl (z_mem (zt_3 (List.mem_of_getElem? (i := 25) rfl)) rfl), z_mem (zt_3 (List.mem_of_getElem? (i := 26) rfl)) rfl, z_mem (zt_3 (List.mem_of_getElem? (i := 27) rfl)) rfl, md_Reader_readPlaces⟩
theorem l_T_55 : zMLV 0 55 m_Reader_readMoves := ⟨Or.inl (z_mem (zt_3 (List.mem_of_getElem? (i := 104) rfl)) rfl), z_mem (zt_3 (List.mem_of_getElem? (i := 105) rfl)) rfl, z_mem (zt_3 (List.mem_of_getElem? (i := 106) rfl)) rfl, md_Reader_readMoves⟩
theorem l_T_58 : zMLV 0 58 m_Reader_readLets := ⟨Or.inl (z_mem (zt_3 (List.mem_of_getElem? (i := 119) rfl)) rfl), z_mem (zt_3 (List.mem_of_getElem? (i := 120) rfl)) rfl, z_mem (zt_3 (List.mem_of_getElem? (i := 121) rfl)) rfl, md_Reader_readLets⟩
theorem l_T_97 : zMLV 0 97 m_Group_everyone := ⟨Or.inl (z_mem (zt_4 (List.mem_of_getElem? (i := 43) rfl)) rfl), z_mem (zt_4 (List.mem_of_getElem? (i := 44) rfl)) rfl, z_mem (zt_4 (List.mem_of_getElem? (i := 45) rfl)) rfl, md_Group_everyone⟩
theorem l_T_101 : zMLV 0 101 m_Group_isCommuting := ⟨Or.inl (z_mem (zt_4 (List.mem_of_getElem? (i := 47) rfl)) rfl), z_mem (zt_4 (List.mem_of_getElem? (i := 48) rfl)) rfl, z_mem (zt_4 (List.mem_of_getElem? (i := 49) rfl)) rfl, md_Group_isCommuting⟩
theorem l_T_108 : zMLV 0 108 m_Group_hasMember := ⟨Or.inl (z_mem (zt_4 (List.mem_of_getElem? (i := 63) rfl)) rfl), z_mem (zt_4 (List.mem_of_getElem? (i := 64) rfl)) rfl, z_mem (zt_4 (List.mem_of_getElem? (i := 65) rfl)) rfl, md_Group_hasMember⟩
theorem l_T_111 : zMLV 0 111 m_Group_hasPlace := ⟨Or.inl (z_mem (zt_4 (List.mem_of_getElem? (i := 67) rfl)) rfl), z_mem (zt_4 (List.mem_of_getElem? (i := 68) rfl)) rfl, z_mem (zt_4 (List.mem_of_getElem? (i := 69) rfl)) rfl, md_Group_hasPlace⟩
theorem l_T_118 : zMLV 0 118 m_IntRow_at := ⟨Or.inl (z_mem (zt_4 (List.mem_of_getElem? (i := 71) rfl)) rfl), z_mem (zt_2 (List.mem_of_getElem? (i := 90) rfl)) rfl, z_mem (zt_2 (List.mem_of_getElem? (i := 91) rfl)) rfl, md_IntRow_at⟩
theorem l_T_124 : zMLS 0 124 m_T_placeIn := ⟨Or.inl (z_mem (zt_4 (List.mem_of_getElem? (i := 72) rfl)) rfl), z_mem (zt_2 (List.mem_of_getElem? (i := 98) rfl)) rfl, md_T_placeIn⟩
theorem l_T_128 : zMLV 0 128 m_Group_both := ⟨Or.inl (z_mem (zt_4 (List.mem_of_getElem? (i := 77) rfl)) rfl), z_mem (zt_2 (List.mem_of_getElem? (i := 127) rfl)) rfl, z_mem (zt_2 (List.mem_of_getElem? (i := 128) rfl)) rfl, md_Group_both⟩
theorem l_T_131 : zMLV 0 131 m_Group_repeatsOf := ⟨Or.inl (z_mem (zt_4 (List.mem_of_getElem? (i := 82) rfl)) rfl), z_mem (zt_4 (List.mem_of_getElem? (i := 83) rfl)) rfl, z_mem (zt_4 (List.mem_of_getElem? (i := 84) rfl)) rfl, md_Group_repeatsOf⟩
theorem l_T_134 : zMLV 0 134 m_Group_hasMembers := ⟨Or.inl (z_mem (zt_4 (List.mem_of_getElem? (i := 90) rfl)) rfl), z_mem (zt_4 (List.mem_of_getElem? (i := 91) rfl)) rfl, z_mem (zt_4 (List.mem_of_getElem? (i := 92) rfl)) rfl, md_Group_hasMembers⟩
theorem l_T_137 : zMLV 0 137 m_Group_spanOf := ⟨Or.inl (z_mem (zt_4 (List.mem_of_getElem? (i := 94) rfl)) rfl), z_mem (zt_2 (List.mem_of_getElem? (i := 122) rfl)) rfl, z_mem (zt_2 (List.mem_of_getElem? (i := 123) rfl)) rfl, md_Group_spanOf⟩
theorem l_T_140 : zMLV 0 140 m_Sorts_spannedSort := ⟨Or.inl (z_mem (zt_4 (List.mem_of_getElem? (i := 99) rfl)) rfl), z_mem (zt_4 (List.mem_of_getElem? (i := 100) rfl)) rfl, z_mem (zt_4 (List.mem_of_getElem? (i := 101) rfl)) rfl, md_Sorts_spannedSort⟩
theorem l_T_143 : zMLV 0 143 m_Sorts_hasSort := ⟨Or.inl (z_mem (zt_4 (List.mem_of_getElem? (i := 107) rfl)) rfl), z_mem (zt_4 (List.mem_of_getElem? (i := 108) rfl)) rfl, z_mem (zt_4 (List.mem_of_getElem? (i := 109) rfl)) rfl, md_Sorts_hasSort⟩
theorem l_T_149 : zMLS 0 149 m_Integer_bitCount := ⟨Or.inl (z_mem (zt_4 (List.mem_of_getElem? (i := 111) rfl)) rfl), z_mem (zt_2 (List.mem_of_getElem? (i := 146) rfl)) rfl, md_Integer_bitCount⟩
theorem l_T_154 : zMLV 0 154 m_Sorts_countOf := ⟨Or.inl (z_mem (zt_4 (List.mem_of_getElem? (i := 112) rfl)) rfl), z_mem (zt_4 (List.mem_of_getElem? (i := 113) rfl)) rfl, z_mem (zt_4 (List.mem_of_getElem? (i := 114) rfl)) rfl, md_Sorts_countOf⟩
theorem l_T_157 : zMLV 0 157 m_Group_normOf := ⟨Or.inl (z_mem (zt_4 (List.mem_of_getElem? (i := 120) rfl)) rfl), z_mem (zt_4 (List.mem_of_getElem? (i := 121) rfl)) rfl, z_mem (zt_4 (List.mem_of_getElem? (i := 122) rfl)) rfl, md_Group_normOf⟩
theorem l_T_160 : zMLV 0 160 m_Group_isMadeByOne := ⟨Or.inl (z_mem (zt_4 (List.mem_of_getElem? (i := 125) rfl)) rfl), z_mem (zt_4 (List.mem_of_getElem? (i := 126) rfl)) rfl, z_mem (zt_4 (List.mem_of_getElem? (i := 127) rfl)) rfl, md_Group_isMadeByOne⟩
theorem l_T_163 : zMLV 0 163 m_Sorts_countWithin := ⟨Or.inl (z_mem (zt_4 (List.mem_of_getElem? (i := 135) rfl)) rfl), z_mem (zt_4 (List.mem_of_getElem? (i := 117) rfl)) rfl, z_mem (zt_4 (List.mem_of_getElem? (i := 118) rfl)) rfl, md_Sorts_countWithin⟩
theorem l_T_166 : zMLV 0 166 m_Sorts_markAt := ⟨Or.inl (z_mem (zt_4 (List.mem_of_getElem? (i := 140) rfl)) rfl), z_mem (zt_2 (List.mem_of_getElem? (i := 175) rfl)) rfl, z_mem (zt_2 (List.mem_of_getElem? (i := 176) rfl)) rfl, md_Sorts_markAt⟩
theorem l_T_173 : zMLV 0 173 m_Sums_putProduct := ⟨Or.inl (z_mem (zt_4 (List.mem_of_getElem? (i := 145) rfl)) rfl), z_mem (zt_4 (List.mem_of_getElem? (i := 146) rfl)) rfl, z_mem (zt_4 (List.mem_of_getElem? (i := 147) rfl)) rfl, md_Sums_putProduct⟩
theorem l_T_179 : zMLV 0 179 m_Sums_numberAt := ⟨Or.inl (z_mem (zt_4 (List.mem_of_getElem? (i := 150) rfl)) rfl), z_mem (zt_3 (List.mem_of_getElem? (i := 227) rfl)) rfl, z_mem (zt_3 (List.mem_of_getElem? (i := 228) rfl)) rfl, md_Sums_numberAt⟩
theorem l_T_183 : zMLS 0 183 m_T_isPrime := ⟨Or.inl (z_mem (zt_4 (List.mem_of_getElem? (i := 155) rfl)) rfl), z_mem (zt_4 (List.mem_of_getElem? (i := 156) rfl)) rfl, md_T_isPrime⟩
theorem l_T_186 : zMLV 0 186 m_Sorts_residueOf := ⟨Or.inl (z_mem (zt_4 (List.mem_of_getElem? (i := 158) rfl)) rfl), z_mem (zt_4 (List.mem_of_getElem? (i := 159) rfl)) rfl, z_mem (zt_4 (List.mem_of_getElem? (i := 160) rfl)) rfl, md_Sorts_residueOf⟩
theorem l_T_189 : zMLV 0 189 m_Sorts_blockOf := ⟨Or.inl (z_mem (zt_4 (List.mem_of_getElem? (i := 170) rfl)) rfl), z_mem (zt_4 (List.mem_of_getElem? (i := 171) rfl)) rfl, z_mem (zt_4 (List.mem_of_getElem? (i := 172) rfl)) rfl, md_Sorts_blockOf⟩
theorem l_T_192 : zMLV 0 192 m_Group_keepersOf := ⟨Or.inl (z_mem (zt_4 (List.mem_of_getElem? (i := 179) rfl)) rfl), z_mem (zt_4 (List.mem_of_getElem? (i := 180) rfl)) rfl, z_mem (zt_4 (List.mem_of_getElem? (i := 181) rfl)) rfl, md_Group_keepersOf⟩
theorem l_T_195 : zMLV 0 195 m_Group_reachOf := ⟨Or.inl (z_mem (zt_4 (List.mem_of_getElem? (i := 187) rfl)) rfl), z_mem (zt_4 (List.mem_of_getElem? (i := 188) rfl)) rfl, z_mem (zt_4 (List.mem_of_getElem? (i := 189) rfl)) rfl, md_Group_reachOf⟩
theorem l_T_198 : zMLV 0 198 m_Group_leastOfCoset := ⟨Or.inl (z_mem (zt_4 (List.mem_of_getElem? (i := 200) rfl)) rfl), z_mem (zt_4 (List.mem_of_getElem? (i := 201) rfl)) rfl, z_mem (zt_4 (List.mem_of_getElem? (i := 202) rfl)) rfl, md_Group_leastOfCoset⟩
theorem l_T_201 : zMLV 0 201 m_Sorts_moebiusOf := ⟨Or.inl (z_mem (zt_4 (List.mem_of_getElem? (i := 215) rfl)) rfl), z_mem (zt_4 (List.mem_of_getElem? (i := 216) rfl)) rfl, z_mem (zt_4 (List.mem_of_getElem? (i := 217) rfl)) rfl, md_Sorts_moebiusOf⟩
theorem l_T_205 : zMLV 0 205 m_Group_mixturesOf := ⟨Or.inl (z_mem (zt_4 (List.mem_of_getElem? (i := 224) rfl)) rfl), z_mem (zt_4 (List.mem_of_getElem? (i := 225) rfl)) rfl, z_mem (zt_4 (List.mem_of_getElem? (i := 226) rfl)) rfl, md_Group_mixturesOf⟩
theorem l_T_208 : zMLV 0 208 m_Group_centreOf := ⟨Or.inl (z_mem (zt_4 (List.mem_of_getElem? (i := 232) rfl)) rfl), z_mem (zt_4 (List.mem_of_getElem? (i := 52) rfl)) rfl, z_mem (zt_4 (List.mem_of_getElem? (i := 53) rfl)) rfl, md_Group_centreOf⟩
theorem l_T_211 : zMLV 0 211 m_Sums_totalOfWork := ⟨Or.inl (z_mem (zt_4 (List.mem_of_getElem? (i := 237) rfl)) rfl), z_mem (zt_4 (List.mem_of_getElem? (i := 238) rfl)) rfl, z_mem (zt_4 (List.mem_of_getElem? (i := 239) rfl)) rfl, md_Sums_totalOfWork⟩
theorem l_T_214 : zMLV 0 214 m_Group_commutingPairs := ⟨Or.inl (z_mem (zt_5 (List.mem_of_getElem? (i := 5) rfl)) rfl), z_mem (zt_5 (List.mem_of_getElem? (i := 6) rfl)) rfl, z_mem (zt_5 (List.mem_of_getElem? (i := 7) rfl)) rfl, md_Group_commutingPairs⟩
theorem l_T_217 : zMLV 0 217 m_Group_countRepeating := ⟨Or.inl (z_mem (zt_5 (List.mem_of_getElem? (i := 21) rfl)) rfl), z_mem (zt_5 (List.mem_of_getElem? (i := 22) rfl)) rfl, z_mem (zt_5 (List.mem_of_getElem? (i := 23) rfl)) rfl, md_Group_countRepeating⟩
theorem l_T_220 : zMLV 0 220 m_Group_countLike := ⟨Or.inl (z_mem (zt_5 (List.mem_of_getElem? (i := 29) rfl)) rfl), z_mem (zt_5 (List.mem_of_getElem? (i := 30) rfl)) rfl, z_mem (zt_5 (List.mem_of_getElem? (i := 31) rfl)) rfl, md_Group_countLike⟩
theorem l_T_223 : zMLV 0 223 m_T_peakPart := ⟨Or.inl (z_mem (zt_5 (List.mem_of_getElem? (i := 37) rfl)) rfl), z_mem (zt_5 (List.mem_of_getElem? (i := 39) rfl)) rfl, z_mem (List.mem_of_getElem? (i := 29) rfl) rfl, md_T_peakPart⟩
theorem l_T_231 : zMLV 0 231 m_Units_seek := ⟨Or.inl (z_mem (zt_5 (List.mem_of_getElem? (i := 60) rfl)) rfl), z_mem (zt_5 (List.mem_of_getElem? (i := 61) rfl)) rfl, z_mem (zt_5 (List.mem_of_getElem? (i := 62) rfl)) rfl, md_Units_seek⟩
theorem l_T_236 : zMLV 0 236 m_Units_total := ⟨Or.inl (z_mem (zt_5 (List.mem_of_getElem? (i := 88) rfl)) rfl), z_mem (zt_5 (List.mem_of_getElem? (i := 89) rfl)) rfl, z_mem (zt_5 (List.mem_of_getElem? (i := 90) rfl)) rfl, md_Units_total⟩
theorem l_T_239 : zMLV 0 239 m_Units_signsOf := ⟨Or.inl (z_mem (zt_5 (List.mem_of_getElem? (i := 96) rfl)) rfl), z_mem (zt_5 (List.mem_of_getElem? (i := 97) rfl)) rfl, z_mem (zt_5 (List.mem_of_getElem? (i := 98) rfl)) rfl, md_Units_signsOf⟩
theorem l_T_242 : zMLV 0 242 m_Sums_putSigns := ⟨Or.inl (z_mem (zt_5 (List.mem_of_getElem? (i := 100) rfl)) rfl), z_mem (zt_5 (List.mem_of_getElem? (i := 101) rfl)) rfl, z_mem (zt_5 (List.mem_of_getElem? (i := 102) rfl)) rfl, md_Sums_putSigns⟩
theorem l_T_245 : zMLV 0 245 m_Troupe_hasName := ⟨Or.inl (z_mem (zt_5 (List.mem_of_getElem? (i := 109) rfl)) rfl), z_mem (zt_5 (List.mem_of_getElem? (i := 110) rfl)) rfl, z_mem (zt_5 (List.mem_of_getElem? (i := 111) rfl)) rfl, md_Troupe_hasName⟩
theorem l_T_250 : zMLV 0 250 m_Sums_markOf := ⟨Or.inl (z_mem (zt_5 (List.mem_of_getElem? (i := 122) rfl)) rfl), z_mem (zt_3 (List.mem_of_getElem? (i := 210) rfl)) rfl, z_mem (zt_3 (List.mem_of_getElem? (i := 211) rfl)) rfl, md_Sums_markOf⟩
theorem l_T_253 : zMLV 0 253 m_Sums_partsOf := ⟨Or.inl (z_mem (zt_5 (List.mem_of_getElem? (i := 131) rfl)) rfl), z_mem (zt_5 (List.mem_of_getElem? (i := 132) rfl)) rfl, z_mem (zt_5 (List.mem_of_getElem? (i := 133) rfl)) rfl, md_Sums_partsOf⟩
theorem l_T_256 : zMLV 0 256 m_Sums_putMarks := ⟨Or.inl (z_mem (zt_5 (List.mem_of_getElem? (i := 139) rfl)) rfl), z_mem (zt_5 (List.mem_of_getElem? (i := 140) rfl)) rfl, z_mem (zt_5 (List.mem_of_getElem? (i := 141) rfl)) rfl, md_Sums_putMarks⟩
theorem l_T_259 : zMLV 0 259 m_Sorts_normSize := ⟨Or.inl (z_mem (zt_5 (List.mem_of_getElem? (i := 143) rfl)) rfl), z_mem (zt_5 (List.mem_of_getElem? (i := 144) rfl)) rfl, z_mem (zt_5 (List.mem_of_getElem? (i := 145) rfl)) rfl, md_Sorts_normSize⟩
theorem l_T_266 : zMLV 0 266 m_Sorts_sumOverNorm := ⟨Or.inl (z_mem (zt_5 (List.mem_of_getElem? (i := 147) rfl)) rfl), z_mem (zt_5 (List.mem_of_getElem? (i := 148) rfl)) rfl, z_mem (zt_5 (List.mem_of_getElem? (i := 149) rfl)) rfl, md_Sorts_sumOverNorm⟩
theorem l_T_270 : zMLV 0 270 m_Sums_hasNoneBelow := ⟨Or.inl (z_mem (zt_5 (List.mem_of_getElem? (i := 157) rfl)) rfl), z_mem (zt_5 (List.mem_of_getElem? (i := 158) rfl)) rfl, z_mem (zt_5 (List.mem_of_getElem? (i := 159) rfl)) rfl, md_Sums_hasNoneBelow⟩
theorem l_T_273 : zMLV 0 273 m_Sums_marksAre := ⟨Or.inl (z_mem (zt_5 (List.mem_of_getElem? (i := 161) rfl)) rfl), z_mem (zt_5 (List.mem_of_getElem? (i := 162) rfl)) rfl, z_mem (zt_5 (List.mem_of_getElem? (i := 163) rfl)) rfl, md_Sums_marksAre⟩
theorem l_T_277 : zMLV 0 277 m_Sums_hasMarkNought := ⟨Or.inl (z_mem (zt_5 (List.mem_of_getElem? (i := 165) rfl)) rfl), z_mem (zt_5 (List.mem_of_getElem? (i := 166) rfl)) rfl, z_mem (zt_5 (List.mem_of_getElem? (i := 167) rfl)) rfl, md_Sums_hasMarkNought⟩
theorem l_T_281 : zMLV 0 281 m_Reader_readWhole := ⟨Or.inl (z_mem (zt_5 (List.mem_of_getElem? (i := 173) rfl)) rfl), z_mem (zt_5 (List.mem_of_getElem? (i := 174) rfl)) rfl, z_mem (zt_5 (List.mem_of_getElem? (i := 175) rfl)) rfl, md_Reader_readWhole⟩
theorem l_T_284 : zMLV 0 284 m_Troupe_become := ⟨Or.inl (z_mem (zt_5 (List.mem_of_getElem? (i := 177) rfl)) rfl), z_mem (zt_5 (List.mem_of_getElem? (i := 178) rfl)) rfl, z_mem (zt_5 (List.mem_of_getElem? (i := 179) rfl)) rfl, md_Troupe_become⟩
theorem l_T_287 : zMLV 0 287 m_Group_countKept := ⟨Or.inl (z_mem (zt_5 (List.mem_of_getElem? (i := 186) rfl)) rfl), z_mem (zt_5 (List.mem_of_getElem? (i := 187) rfl)) rfl, z_mem (zt_5 (List.mem_of_getElem? (i := 188) rfl)) rfl, md_Group_countKept⟩
theorem l_T_290 : zMLV 0 290 m_LongRow_put := ⟨Or.inl (z_mem (zt_5 (List.mem_of_getElem? (i := 202) rfl)) rfl), z_mem (zt_2 (List.mem_of_getElem? (i := 187) rfl)) rfl, z_mem (zt_2 (List.mem_of_getElem? (i := 188) rfl)) rfl, md_LongRow_put⟩
theorem l_T_296 : zMLV 0 296 m_Sums_solve := ⟨Or.inl (z_mem (zt_5 (List.mem_of_getElem? (i := 203) rfl)) rfl), z_mem (zt_3 (List.mem_of_getElem? (i := 219) rfl)) rfl, z_mem (zt_3 (List.mem_of_getElem? (i := 220) rfl)) rfl, md_Sums_solve⟩
theorem l_T_299 : zMLV 0 299 m_Reader_readRow := ⟨Or.inl (z_mem (zt_5 (List.mem_of_getElem? (i := 208) rfl)) rfl), z_mem (zt_5 (List.mem_of_getElem? (i := 209) rfl)) rfl, z_mem (zt_5 (List.mem_of_getElem? (i := 210) rfl)) rfl, md_Reader_readRow⟩
theorem l_T_303 : zMLV 0 303 m_Sorts_firstIncongruent := ⟨Or.inl (z_mem (zt_5 (List.mem_of_getElem? (i := 218) rfl)) rfl), z_mem (zt_5 (List.mem_of_getElem? (i := 219) rfl)) rfl, z_mem (zt_5 (List.mem_of_getElem? (i := 220) rfl)) rfl, md_Sorts_firstIncongruent⟩
theorem l_T_307 : zMLV 0 307 m_Sums_putGrown := ⟨Or.inl (z_mem (zt_5 (List.mem_of_getElem? (i := 232) rfl)) rfl), z_mem (zt_5 (List.mem_of_getElem? (i := 233) rfl)) rfl, z_mem (zt_5 (List.mem_of_getElem? (i := 234) rfl)) rfl, md_Sums_putGrown⟩
theorem l_T_311 : zMLV 0 311 m_Sums_isInBounds := ⟨Or.inl (z_mem (zt_5 (List.mem_of_getElem? (i := 236) rfl)) rfl), z_mem (zt_3 (List.mem_of_getElem? (i := 223) rfl)) rfl, z_mem (zt_3 (List.mem_of_getElem? (i := 224) rfl)) rfl, md_Sums_isInBounds⟩
theorem l_T_314 : zMLV 0 314 m_Troupe_takeBack := ⟨Or.inl (z_mem (zt_6 (List.mem_of_getElem? (i := 1) rfl)) rfl), z_mem (zt_6 (List.mem_of_getElem? (i := 2) rfl)) rfl, z_mem (zt_6 (List.mem_of_getElem? (i := 3) rfl)) rfl, md_Troupe_takeBack⟩
theorem l_T_317 : zMLV 0 317 m_Sums_putScaled := ⟨Or.inl (z_mem (zt_5 (List.mem_of_getElem? (i := 41) rfl)) rfl), z_mem (zt_5 (List.mem_of_getElem? (i := 42) rfl)) rfl, z_mem (zt_5 (List.mem_of_getElem? (i := 43) rfl)) rfl, md_Sums_putScaled⟩
theorem l_T_325 : zMLS 0 325 m_T_greatestDivisor := ⟨Or.inl (z_mem (zt_5 (List.mem_of_getElem? (i := 49) rfl)) rfl), z_mem (zt_5 (List.mem_of_getElem? (i := 50) rfl)) rfl, md_T_greatestDivisor⟩
theorem l_Tokens_11 : zMLI 1 11 m_IntRow_init := ⟨Or.inl (z_mem (zt_1 (List.mem_of_getElem? (i := 35) rfl)) rfl), z_mem (zt_1 (List.mem_of_getElem? (i := 36) rfl)) rfl, rfl, rfl, md_IntRow_init⟩
theorem l_Tokens_24 : zMLV 1 24 m_IntRow_put := ⟨Or.inl (z_mem (zt_2 (List.mem_of_getElem? (i := 211) rfl)) rfl), z_mem (zt_2 (List.mem_of_getElem? (i := 86) rfl)) rfl, z_mem (zt_2 (List.mem_of_getElem? (i := 87) rfl)) rfl, md_IntRow_put⟩
theorem l_Tokens_31 : zMLV 1 31 m_Tokens_step := ⟨Or.inl (z_mem (zt_2 (List.mem_of_getElem? (i := 228) rfl)) rfl), z_mem (zt_2 (List.mem_of_getElem? (i := 229) rfl)) rfl, z_mem (zt_2 (List.mem_of_getElem? (i := 230) rfl)) rfl, md_Tokens_step⟩
theorem l_Tokens_34 : zMLV 1 34 m_Tokens_pastBlanks := ⟨Or.inl (z_mem (zt_2 (List.mem_of_getElem? (i := 232) rfl)) rfl), z_mem (zt_2 (List.mem_of_getElem? (i := 233) rfl)) rfl, z_mem (zt_2 (List.mem_of_getElem? (i := 234) rfl)) rfl, md_Tokens_pastBlanks⟩
theorem l_Tokens_47 : zMLV 1 47 m_IntRow_at := ⟨Or.inl (z_mem (zt_2 (List.mem_of_getElem? (i := 236) rfl)) rfl), z_mem (zt_2 (List.mem_of_getElem? (i := 90) rfl)) rfl, z_mem (zt_2 (List.mem_of_getElem? (i := 91) rfl)) rfl, md_IntRow_at⟩
theorem l_Tokens_50 : zMLS 1 50 m_Tokens_isLetter := ⟨Or.inl (z_mem (zt_3 (List.mem_of_getElem? (i := 0) rfl)) rfl), z_mem (zt_3 (List.mem_of_getElem? (i := 1) rfl)) rfl, md_Tokens_isLetter⟩
theorem l_Tokens_54 : zMLV 1 54 m_Tokens_readWord := ⟨Or.inl (z_mem (zt_3 (List.mem_of_getElem? (i := 3) rfl)) rfl), z_mem (zt_3 (List.mem_of_getElem? (i := 5) rfl)) rfl, z_mem (List.mem_of_getElem? (i := 9) rfl) rfl, md_Tokens_readWord⟩
theorem l_Tokens_57 : zMLS 1 57 m_Tokens_isDigit := ⟨Or.inl (z_mem (zt_3 (List.mem_of_getElem? (i := 7) rfl)) rfl), z_mem (zt_3 (List.mem_of_getElem? (i := 8) rfl)) rfl, md_Tokens_isDigit⟩
theorem l_Tokens_60 : zMLV 1 60 m_Tokens_readNumber := ⟨Or.inl (z_mem (zt_3 (List.mem_of_getElem? (i := 10) rfl)) rfl), z_mem (zt_3 (List.mem_of_getElem? (i := 12) rfl)) rfl, z_mem (List.mem_of_getElem? (i := 10) rfl) rfl, md_Tokens_readNumber⟩
theorem l_Tokens_63 : zMLS 1 63 m_Tokens_isSignByte := ⟨Or.inl (z_mem (zt_3 (List.mem_of_getElem? (i := 22) rfl)) rfl), z_mem (zt_3 (List.mem_of_getElem? (i := 23) rfl)) rfl, md_Tokens_isSignByte⟩
theorem l_Tokens_66 : zMLV 1 66 m_Tokens_pastDigits := ⟨Or.inl (z_mem (zt_3 (List.mem_of_getElem? (i := 14) rfl)) rfl), z_mem (zt_3 (List.mem_of_getElem? (i := 15) rfl)) rfl, z_mem (zt_3 (List.mem_of_getElem? (i := 16) rfl)) rfl, md_Tokens_pastDigits⟩
theorem l_Tokens_69 : zMLV 1 69 m_Tokens_numberFrom := ⟨Or.inl (z_mem (zt_3 (List.mem_of_getElem? (i := 18) rfl)) rfl), z_mem (zt_3 (List.mem_of_getElem? (i := 19) rfl)) rfl, z_mem (zt_3 (List.mem_of_getElem? (i := 20) rfl)) rfl, md_Tokens_numberFrom⟩
theorem l_Tokens_73 : zMLS 1 73 m_Tokens_isBlank := ⟨Or.inl (z_mem (zt_2 (List.mem_of_getElem? (i := 237) rfl)) rfl), z_mem (zt_2 (List.mem_of_getElem? (i := 238) rfl)) rfl, md_Tokens_isBlank⟩
theorem l_Tokens_76 : zMLV 1 76 m_String_length := ⟨Or.inl (z_mem (zt_3 (List.mem_of_getElem? (i := 34) rfl)) rfl), z_mem (zt_3 (List.mem_of_getElem? (i := 35) rfl)) rfl, z_mem (zt_3 (List.mem_of_getElem? (i := 36) rfl)) rfl, md_String_length⟩
theorem l_Tokens_81 : zMLV 1 81 m_String_charAt := ⟨Or.inl (z_mem (zt_3 (List.mem_of_getElem? (i := 44) rfl)) rfl), z_mem (zt_3 (List.mem_of_getElem? (i := 45) rfl)) rfl, z_mem (zt_3 (List.mem_of_getElem? (i := 46) rfl)) rfl, md_String_charAt⟩
theorem l_Tokens_87 : zMLV 1 87 m_Tokens_isWord := ⟨Or.inl (z_mem (zt_3 (List.mem_of_getElem? (i := 129) rfl)) rfl), z_mem (zt_3 (List.mem_of_getElem? (i := 31) rfl)) rfl, z_mem (zt_3 (List.mem_of_getElem? (i := 32) rfl)) rfl, md_Tokens_isWord⟩
theorem l_Reader_22 : zMLV 3 22 m_Tokens_rewind := ⟨Or.inl (z_mem (zt_2 (List.mem_of_getElem? (i := 224) rfl)) rfl), z_mem (zt_2 (List.mem_of_getElem? (i := 225) rfl)) rfl, z_mem (zt_2 (List.mem_of_getElem? (i := 226) rfl)) rfl, md_Tokens_rewind⟩
theorem l_Reader_33 : zMLV 3 33 m_Reader_refuseAt := ⟨Or.inl (z_mem (zt_3 (List.mem_of_getElem? (i := 86) rfl)) rfl), z_mem (zt_3 (List.mem_of_getElem? (i := 88) rfl)) rfl, z_mem (List.mem_of_getElem? (i := 12) rfl) rfl, md_Reader_refuseAt⟩
theorem l_Reader_37 : zMLV 3 37 m_Tokens_isSign := ⟨Or.inl (z_mem (zt_3 (List.mem_of_getElem? (i := 100) rfl)) rfl), z_mem (zt_3 (List.mem_of_getElem? (i := 101) rfl)) rfl, z_mem (zt_3 (List.mem_of_getElem? (i := 102) rfl)) rfl, md_Tokens_isSign⟩
theorem l_Reader_41 : zMLV 3 41 m_Reader_refuse := ⟨Or.inl (z_mem (zt_3 (List.mem_of_getElem? (i := 82) rfl)) rfl), z_mem (zt_3 (List.mem_of_getElem? (i := 84) rfl)) rfl, z_mem (List.mem_of_getElem? (i := 11) rfl) rfl, md_Reader_refuse⟩
theorem l_Reader_44 : zMLV 3 44 m_Tokens_step := ⟨Or.inl (z_mem (zt_3 (List.mem_of_getElem? (i := 90) rfl)) rfl), z_mem (zt_2 (List.mem_of_getElem? (i := 229) rfl)) rfl, z_mem (zt_2 (List.mem_of_getElem? (i := 230) rfl)) rfl, md_Tokens_step⟩
theorem l_Reader_49 : zMLV 3 49 m_Tokens_isWord := ⟨Or.inl (z_mem (zt_3 (List.mem_of_getElem? (i := 30) rfl)) rfl), z_mem (zt_3 (List.mem_of_getElem? (i := 31) rfl)) rfl, z_mem (zt_3 (List.mem_of_getElem? (i := 32) rfl)) rfl, md_Tokens_isWord⟩
theorem l_Reader_53 : zMLV 3 53 m_Tokens_isNumber := ⟨Or.inl (z_mem (zt_3 (List.mem_of_getElem? (i := 91) rfl)) rfl), z_mem (zt_3 (List.mem_of_getElem? (i := 92) rfl)) rfl, z_mem (zt_3 (List.mem_of_getElem? (i := 93) rfl)) rfl, md_Tokens_isNumber⟩
theorem l_Reader_60 : zMLV 3 60 m_Troupe_begin := ⟨Or.inl (z_mem (zt_3 (List.mem_of_getElem? (i := 95) rfl)) rfl), z_mem (zt_2 (List.mem_of_getElem? (i := 71) rfl)) rfl, z_mem (zt_2 (List.mem_of_getElem? (i := 72) rfl)) rfl, md_Troupe_begin⟩
theorem l_Reader_66 : zMLV 3 66 m_Reader_passSign := ⟨Or.inl (z_mem (zt_3 (List.mem_of_getElem? (i := 96) rfl)) rfl), z_mem (zt_3 (List.mem_of_getElem? (i := 98) rfl)) rfl, z_mem (List.mem_of_getElem? (i := 13) rfl) rfl, md_Reader_passSign⟩
theorem l_Reader_82 : zMLV 3 82 m_Reader_readMove := ⟨Or.inl (z_mem (zt_3 (List.mem_of_getElem? (i := 109) rfl)) rfl), z_mem (zt_3 (List.mem_of_getElem? (i := 111) rfl)) rfl, z_mem (List.mem_of_getElem? (i := 14) rfl) rfl, md_Reader_readMove⟩
theorem l_Reader_86 : zMLV 3 86 m_Group_addMove := ⟨Or.inl (z_mem (zt_3 (List.mem_of_getElem? (i := 115) rfl)) rfl), z_mem (zt_3 (List.mem_of_getElem? (i := 116) rfl)) rfl, z_mem (zt_3 (List.mem_of_getElem? (i := 117) rfl)) rfl, md_Group_addMove⟩
theorem l_Reader_89 : zMLS 3 89 m_T_isIn := ⟨Or.inr ⟨"TroupeSums", z_memN (zt_3 (List.mem_of_getElem? (i := 113) rfl)) rfl⟩, z_mem (zt_2 (List.mem_of_getElem? (i := 119) rfl)) rfl, md_T_isIn⟩
theorem l_Reader_92 : zMLS 3 92 m_T_codeOf := ⟨Or.inr ⟨"TroupeSums", z_memN (zt_3 (List.mem_of_getElem? (i := 114) rfl)) rfl⟩, z_mem (zt_2 (List.mem_of_getElem? (i := 83) rfl)) rfl, md_T_codeOf⟩
theorem l_Reader_101 : zMLV 3 101 m_Tokens_isName := ⟨Or.inl (z_mem (zt_3 (List.mem_of_getElem? (i := 124) rfl)) rfl), z_mem (zt_3 (List.mem_of_getElem? (i := 125) rfl)) rfl, z_mem (zt_3 (List.mem_of_getElem? (i := 126) rfl)) rfl, md_Tokens_isName⟩
theorem l_Reader_104 : zMLV 3 104 m_Troupe_nameOf := ⟨Or.inl (z_mem (zt_3 (List.mem_of_getElem? (i := 133) rfl)) rfl), z_mem (zt_3 (List.mem_of_getElem? (i := 134) rfl)) rfl, z_mem (zt_3 (List.mem_of_getElem? (i := 135) rfl)) rfl, md_Troupe_nameOf⟩
theorem l_Reader_107 : zMLV 3 107 m_Reader_readSum := ⟨Or.inl (z_mem (zt_3 (List.mem_of_getElem? (i := 138) rfl)) rfl), z_mem (zt_3 (List.mem_of_getElem? (i := 140) rfl)) rfl, z_mem (List.mem_of_getElem? (i := 15) rfl) rfl, md_Reader_readSum⟩
theorem l_Reader_121 : zMLV 3 121 m_Troupe_addName := ⟨Or.inl (z_mem (zt_4 (List.mem_of_getElem? (i := 28) rfl)) rfl), z_mem (zt_4 (List.mem_of_getElem? (i := 29) rfl)) rfl, z_mem (zt_4 (List.mem_of_getElem? (i := 30) rfl)) rfl, md_Troupe_addName⟩
theorem l_Reader_124 : zMLV 3 124 m_Calc_begin := ⟨Or.inl (z_mem (zt_3 (List.mem_of_getElem? (i := 142) rfl)) rfl), z_mem (zt_3 (List.mem_of_getElem? (i := 143) rfl)) rfl, z_mem (zt_3 (List.mem_of_getElem? (i := 144) rfl)) rfl, md_Calc_begin⟩
theorem l_Reader_129 : zMLV 3 129 m_Reader_readAhead := ⟨Or.inl (z_mem (zt_3 (List.mem_of_getElem? (i := 146) rfl)) rfl), z_mem (zt_3 (List.mem_of_getElem? (i := 148) rfl)) rfl, z_mem (List.mem_of_getElem? (i := 16) rfl) rfl, md_Reader_readAhead⟩
theorem l_Reader_133 : zMLV 3 133 m_Reader_readOperand := ⟨Or.inl (z_mem (zt_3 (List.mem_of_getElem? (i := 163) rfl)) rfl), z_mem (zt_3 (List.mem_of_getElem? (i := 165) rfl)) rfl, z_mem (List.mem_of_getElem? (i := 19) rfl) rfl, md_Reader_readOperand⟩
theorem l_Reader_136 : zMLV 3 136 m_Reader_readBehind := ⟨Or.inl (z_mem (zt_3 (List.mem_of_getElem? (i := 197) rfl)) rfl), z_mem (zt_3 (List.mem_of_getElem? (i := 199) rfl)) rfl, z_mem (List.mem_of_getElem? (i := 23) rfl) rfl, md_Reader_readBehind⟩
theorem l_Reader_139 : zMLV 3 139 m_Calc_put := ⟨Or.inl (z_mem (zt_4 (List.mem_of_getElem? (i := 23) rfl)) rfl), z_mem (zt_4 (List.mem_of_getElem? (i := 24) rfl)) rfl, z_mem (zt_4 (List.mem_of_getElem? (i := 25) rfl)) rfl, md_Calc_put⟩
theorem l_Reader_145 : zMLV 3 145 m_Calc_reckon := ⟨Or.inl (z_mem (zt_4 (List.mem_of_getElem? (i := 11) rfl)) rfl), z_mem (zt_4 (List.mem_of_getElem? (i := 12) rfl)) rfl, z_mem (zt_4 (List.mem_of_getElem? (i := 13) rfl)) rfl, md_Calc_reckon⟩
theorem l_Reader_152 : zMLV 3 152 m_Reader_countUnit := ⟨Or.inl (z_mem (zt_3 (List.mem_of_getElem? (i := 150) rfl)) rfl), z_mem (zt_3 (List.mem_of_getElem? (i := 152) rfl)) rfl, z_mem (List.mem_of_getElem? (i := 17) rfl) rfl, md_Reader_countUnit⟩
theorem l_Reader_155 : zMLV 3 155 m_Calc_open := ⟨Or.inl (z_mem (zt_3 (List.mem_of_getElem? (i := 154) rfl)) rfl), z_mem (zt_3 (List.mem_of_getElem? (i := 155) rfl)) rfl, z_mem (zt_3 (List.mem_of_getElem? (i := 156) rfl)) rfl, md_Calc_open⟩
theorem l_Reader_169 : zMLV 3 169 m_Reader_readNamed := ⟨Or.inl (z_mem (zt_3 (List.mem_of_getElem? (i := 168) rfl)) rfl), z_mem (zt_3 (List.mem_of_getElem? (i := 170) rfl)) rfl, z_mem (List.mem_of_getElem? (i := 20) rfl) rfl, md_Reader_readNamed⟩
theorem l_Reader_172 : zMLV 3 172 m_Calc_pushSingle := ⟨Or.inl (z_mem (zt_3 (List.mem_of_getElem? (i := 192) rfl)) rfl), z_mem (zt_3 (List.mem_of_getElem? (i := 193) rfl)) rfl, z_mem (zt_3 (List.mem_of_getElem? (i := 194) rfl)) rfl, md_Calc_pushSingle⟩
theorem l_Reader_176 : zMLV 3 176 m_Calc_pushNamed := ⟨Or.inl (z_mem (zt_3 (List.mem_of_getElem? (i := 172) rfl)) rfl), z_mem (zt_3 (List.mem_of_getElem? (i := 173) rfl)) rfl, z_mem (zt_3 (List.mem_of_getElem? (i := 174) rfl)) rfl, md_Calc_pushNamed⟩
theorem l_Reader_179 : zMLV 3 179 m_Calc_raise := ⟨Or.inl (z_mem (zt_3 (List.mem_of_getElem? (i := 201) rfl)) rfl), z_mem (zt_3 (List.mem_of_getElem? (i := 202) rfl)) rfl, z_mem (zt_3 (List.mem_of_getElem? (i := 203) rfl)) rfl, md_Calc_raise⟩
theorem l_Reader_182 : zMLV 3 182 m_Calc_negate := ⟨Or.inl (z_mem (zt_3 (List.mem_of_getElem? (i := 234) rfl)) rfl), z_mem (zt_3 (List.mem_of_getElem? (i := 235) rfl)) rfl, z_mem (zt_3 (List.mem_of_getElem? (i := 236) rfl)) rfl, md_Calc_negate⟩
theorem l_Reader_185 : zMLV 3 185 m_Calc_close := ⟨Or.inl (z_mem (zt_4 (List.mem_of_getElem? (i := 19) rfl)) rfl), z_mem (zt_4 (List.mem_of_getElem? (i := 20) rfl)) rfl, z_mem (zt_4 (List.mem_of_getElem? (i := 21) rfl)) rfl, md_Calc_close⟩
theorem l_Reader_188 : zMLV 3 188 m_Tokens_pastBlanks := ⟨Or.inl (z_mem (zt_5 (List.mem_of_getElem? (i := 212) rfl)) rfl), z_mem (zt_2 (List.mem_of_getElem? (i := 233) rfl)) rfl, z_mem (zt_2 (List.mem_of_getElem? (i := 234) rfl)) rfl, md_Tokens_pastBlanks⟩
theorem l_Reader_198 : zMLV 3 198 m_IntRow_at := ⟨Or.inl (z_mem (zt_5 (List.mem_of_getElem? (i := 213) rfl)) rfl), z_mem (zt_2 (List.mem_of_getElem? (i := 90) rfl)) rfl, z_mem (zt_2 (List.mem_of_getElem? (i := 91) rfl)) rfl, md_IntRow_at⟩
theorem l_Reader_203 : zMLV 3 203 m_Tokens_pastDigits := ⟨Or.inl (z_mem (zt_5 (List.mem_of_getElem? (i := 214) rfl)) rfl), z_mem (zt_3 (List.mem_of_getElem? (i := 15) rfl)) rfl, z_mem (zt_3 (List.mem_of_getElem? (i := 16) rfl)) rfl, md_Tokens_pastDigits⟩
theorem l_Reader_206 : zMLS 3 206 m_Tokens_isBlank := ⟨Or.inr ⟨"TroupeSums", z_memN (zt_5 (List.mem_of_getElem? (i := 215) rfl)) rfl⟩, z_mem (zt_2 (List.mem_of_getElem? (i := 238) rfl)) rfl, md_Tokens_isBlank⟩
theorem l_Reader_209 : zMLV 3 209 m_Tokens_numberFrom := ⟨Or.inl (z_mem (zt_5 (List.mem_of_getElem? (i := 216) rfl)) rfl), z_mem (zt_3 (List.mem_of_getElem? (i := 19) rfl)) rfl, z_mem (zt_3 (List.mem_of_getElem? (i := 20) rfl)) rfl, md_Tokens_numberFrom⟩
theorem l_Reader_212 : zMLV 3 212 m_LongRow_put := ⟨Or.inl (z_mem (zt_5 (List.mem_of_getElem? (i := 217) rfl)) rfl), z_mem (zt_2 (List.mem_of_getElem? (i := 187) rfl)) rfl, z_mem (zt_2 (List.mem_of_getElem? (i := 188) rfl)) rfl, md_LongRow_put⟩
theorem l_Troupe_11 : zMLI 4 11 m_Group_init := ⟨Or.inr ⟨"TroupeSums", z_memN (zt_1 (List.mem_of_getElem? (i := 101) rfl)) rfl⟩, z_mem (zt_1 (List.mem_of_getElem? (i := 102) rfl)) rfl, rfl, rfl, md_Group_init⟩
theorem l_Troupe_20 : zMLI 4 20 m_Sorts_init := ⟨Or.inl (z_mem (zt_1 (List.mem_of_getElem? (i := 142) rfl)) rfl), z_mem (zt_1 (List.mem_of_getElem? (i := 143) rfl)) rfl, rfl, rfl, md_Sorts_init⟩
theorem l_Troupe_29 : zMLI 4 29 m_Sums_init := ⟨Or.inl (z_mem (zt_1 (List.mem_of_getElem? (i := 185) rfl)) rfl), z_mem (zt_1 (List.mem_of_getElem? (i := 186) rfl)) rfl, rfl, rfl, md_Sums_init⟩
theorem l_Troupe_38 : zMLI 4 38 m_Units_init := ⟨Or.inl (z_mem (zt_1 (List.mem_of_getElem? (i := 215) rfl)) rfl), z_mem (zt_1 (List.mem_of_getElem? (i := 216) rfl)) rfl, rfl, rfl, md_Units_init⟩
theorem l_Troupe_45 : zMLI 4 45 m_Calc_init := ⟨Or.inl (z_mem (zt_1 (List.mem_of_getElem? (i := 239) rfl)) rfl), z_mem (zt_2 (List.mem_of_getElem? (i := 0) rfl)) rfl, rfl, rfl, md_Calc_init⟩
theorem l_Troupe_54 : zMLI 4 54 m_IntRow_init := ⟨Or.inl (z_mem (zt_2 (List.mem_of_getElem? (i := 31) rfl)) rfl), z_mem (zt_1 (List.mem_of_getElem? (i := 36) rfl)) rfl, rfl, rfl, md_IntRow_init⟩
theorem l_Troupe_61 : zMLV 4 61 m_Group_begin := ⟨Or.inl (z_mem (zt_2 (List.mem_of_getElem? (i := 74) rfl)) rfl), z_mem (zt_2 (List.mem_of_getElem? (i := 75) rfl)) rfl, z_mem (zt_2 (List.mem_of_getElem? (i := 76) rfl)) rfl, md_Group_begin⟩
theorem l_Troupe_74 : zMLV 4 74 m_Group_settle := ⟨Or.inl (z_mem (zt_2 (List.mem_of_getElem? (i := 108) rfl)) rfl), z_mem (zt_2 (List.mem_of_getElem? (i := 109) rfl)) rfl, z_mem (zt_2 (List.mem_of_getElem? (i := 110) rfl)) rfl, md_Group_settle⟩
theorem l_Troupe_77 : zMLV 4 77 m_Sorts_settle := ⟨Or.inl (z_mem (zt_2 (List.mem_of_getElem? (i := 112) rfl)) rfl), z_mem (zt_2 (List.mem_of_getElem? (i := 113) rfl)) rfl, z_mem (zt_2 (List.mem_of_getElem? (i := 114) rfl)) rfl, md_Sorts_settle⟩
theorem l_Troupe_78 : zMLV 4 78 m_Units_forget := ⟨Or.inl (z_mem (zt_2 (List.mem_of_getElem? (i := 178) rfl)) rfl), z_mem (zt_2 (List.mem_of_getElem? (i := 179) rfl)) rfl, z_mem (zt_2 (List.mem_of_getElem? (i := 180) rfl)) rfl, md_Units_forget⟩
theorem l_Troupe_81 : zMLV 4 81 m_Sums_putSingle := ⟨Or.inl (z_mem (zt_2 (List.mem_of_getElem? (i := 182) rfl)) rfl), z_mem (zt_2 (List.mem_of_getElem? (i := 183) rfl)) rfl, z_mem (zt_2 (List.mem_of_getElem? (i := 184) rfl)) rfl, md_Sums_putSingle⟩
theorem l_Troupe_85 : zMLV 4 85 m_IntRow_at := ⟨Or.inl (z_mem (zt_3 (List.mem_of_getElem? (i := 137) rfl)) rfl), z_mem (zt_2 (List.mem_of_getElem? (i := 90) rfl)) rfl, z_mem (zt_2 (List.mem_of_getElem? (i := 91) rfl)) rfl, md_IntRow_at⟩
theorem l_Troupe_89 : zMLV 4 89 m_IntRow_put := ⟨Or.inl (z_mem (zt_4 (List.mem_of_getElem? (i := 32) rfl)) rfl), z_mem (zt_2 (List.mem_of_getElem? (i := 86) rfl)) rfl, z_mem (zt_2 (List.mem_of_getElem? (i := 87) rfl)) rfl, md_IntRow_put⟩
theorem l_Troupe_93 : zMLV 4 93 m_Sums_copy := ⟨Or.inl (z_mem (zt_4 (List.mem_of_getElem? (i := 33) rfl)) rfl), z_mem (zt_3 (List.mem_of_getElem? (i := 185) rfl)) rfl, z_mem (zt_3 (List.mem_of_getElem? (i := 186) rfl)) rfl, md_Sums_copy⟩
theorem l_Group_11 : zMLI 5 11 m_IntRow_init := ⟨Or.inl (z_mem (zt_1 (List.mem_of_getElem? (i := 106) rfl)) rfl), z_mem (zt_1 (List.mem_of_getElem? (i := 36) rfl)) rfl, rfl, rfl, md_IntRow_init⟩
theorem l_Group_42 : zMLV 5 42 m_Group_gather := ⟨Or.inl (z_mem (zt_2 (List.mem_of_getElem? (i := 78) rfl)) rfl), z_mem (zt_2 (List.mem_of_getElem? (i := 80) rfl)) rfl, z_mem (List.mem_of_getElem? (i := 0) rfl) rfl, md_Group_gather⟩
theorem l_Group_46 : zMLV 5 46 m_IntRow_put := ⟨Or.inl (z_mem (zt_2 (List.mem_of_getElem? (i := 85) rfl)) rfl), z_mem (zt_2 (List.mem_of_getElem? (i := 86) rfl)) rfl, z_mem (zt_2 (List.mem_of_getElem? (i := 87) rfl)) rfl, md_IntRow_put⟩
theorem l_Group_50 : zMLS 5 50 m_T_codeOf := ⟨Or.inr ⟨"TroupeSums", z_memN (zt_2 (List.mem_of_getElem? (i := 82) rfl)) rfl⟩, z_mem (zt_2 (List.mem_of_getElem? (i := 83) rfl)) rfl, md_T_codeOf⟩
theorem l_Group_54 : zMLV 5 54 m_IntRow_at := ⟨Or.inl (z_mem (zt_2 (List.mem_of_getElem? (i := 89) rfl)) rfl), z_mem (zt_2 (List.mem_of_getElem? (i := 90) rfl)) rfl, z_mem (zt_2 (List.mem_of_getElem? (i := 91) rfl)) rfl, md_IntRow_at⟩
theorem l_Group_58 : zMLV 5 58 m_Group_behind := ⟨Or.inl (z_mem (zt_2 (List.mem_of_getElem? (i := 93) rfl)) rfl), z_mem (zt_2 (List.mem_of_getElem? (i := 95) rfl)) rfl, z_mem (List.mem_of_getElem? (i := 1) rfl) rfl, md_Group_behind⟩
theorem l_Group_61 : zMLV 5 61 m_Group_indexOf := ⟨Or.inl (z_mem (zt_2 (List.mem_of_getElem? (i := 100) rfl)) rfl), z_mem (zt_2 (List.mem_of_getElem? (i := 102) rfl)) rfl, z_mem (List.mem_of_getElem? (i := 2) rfl) rfl, md_Group_indexOf⟩
theorem l_Group_64 : zMLS 5 64 m_T_placeIn := ⟨Or.inr ⟨"TroupeSums", z_memN (zt_2 (List.mem_of_getElem? (i := 97) rfl)) rfl⟩, z_mem (zt_2 (List.mem_of_getElem? (i := 98) rfl)) rfl, md_T_placeIn⟩
theorem l_Group_67 : zMLV 5 67 m_Group_both := ⟨Or.inl (z_mem (zt_2 (List.mem_of_getElem? (i := 126) rfl)) rfl), z_mem (zt_2 (List.mem_of_getElem? (i := 127) rfl)) rfl, z_mem (zt_2 (List.mem_of_getElem? (i := 128) rfl)) rfl, md_Group_both⟩
theorem l_Group_70 : zMLV 5 70 m_Group_repeatsOf := ⟨Or.inl (z_mem (zt_4 (List.mem_of_getElem? (i := 130) rfl)) rfl), z_mem (zt_4 (List.mem_of_getElem? (i := 83) rfl)) rfl, z_mem (zt_4 (List.mem_of_getElem? (i := 84) rfl)) rfl, md_Group_repeatsOf⟩
theorem l_Group_73 : zMLS 5 73 m_T_isIn := ⟨Or.inr ⟨"TroupeSums", z_memN (zt_2 (List.mem_of_getElem? (i := 125) rfl)) rfl⟩, z_mem (zt_2 (List.mem_of_getElem? (i := 119) rfl)) rfl, md_T_isIn⟩
theorem l_Group_77 : zMLV 5 77 m_Group_turn := ⟨Or.inl (z_mem (zt_2 (List.mem_of_getElem? (i := 159) rfl)) rfl), z_mem (zt_2 (List.mem_of_getElem? (i := 160) rfl)) rfl, z_mem (zt_2 (List.mem_of_getElem? (i := 161) rfl)) rfl, md_Group_turn⟩
theorem l_Group_80 : zMLV 5 80 m_Group_turnAll := ⟨Or.inl (z_mem (zt_4 (List.mem_of_getElem? (i := 124) rfl)) rfl), z_mem (zt_2 (List.mem_of_getElem? (i := 156) rfl)) rfl, z_mem (zt_2 (List.mem_of_getElem? (i := 157) rfl)) rfl, md_Group_turnAll⟩
theorem l_Group_83 : zMLS 5 83 m_Integer_bitCount := ⟨Or.inl (z_mem (zt_4 (List.mem_of_getElem? (i := 129) rfl)) rfl), z_mem (zt_2 (List.mem_of_getElem? (i := 146) rfl)) rfl, md_Integer_bitCount⟩
theorem l_Group_93 : zMLV 5 93 m_Group_everyone := ⟨Or.inl (z_mem (zt_4 (List.mem_of_getElem? (i := 191) rfl)) rfl), z_mem (zt_4 (List.mem_of_getElem? (i := 44) rfl)) rfl, z_mem (zt_4 (List.mem_of_getElem? (i := 45) rfl)) rfl, md_Group_everyone⟩
theorem l_Group_97 : zMLV 5 97 m_Group_commutingWith := ⟨Or.inl (z_mem (zt_4 (List.mem_of_getElem? (i := 55) rfl)) rfl), z_mem (zt_4 (List.mem_of_getElem? (i := 57) rfl)) rfl, z_mem (List.mem_of_getElem? (i := 27) rfl) rfl, md_Group_commutingWith⟩
theorem l_Group_100 : zMLV 5 100 m_Group_centreOf := ⟨Or.inl (z_mem (zt_4 (List.mem_of_getElem? (i := 51) rfl)) rfl), z_mem (zt_4 (List.mem_of_getElem? (i := 52) rfl)) rfl, z_mem (zt_4 (List.mem_of_getElem? (i := 53) rfl)) rfl, md_Group_centreOf⟩
theorem l_Group_103 : zMLV 5 103 m_Group_placesReached := ⟨Or.inl (z_mem (zt_4 (List.mem_of_getElem? (i := 192) rfl)) rfl), z_mem (zt_4 (List.mem_of_getElem? (i := 194) rfl)) rfl, z_mem (List.mem_of_getElem? (i := 28) rfl) rfl, md_Group_placesReached⟩
theorem l_Group_106 : zMLV 5 106 m_Group_countSetsKept := ⟨Or.inl (z_mem (zt_5 (List.mem_of_getElem? (i := 190) rfl)) rfl), z_mem (zt_5 (List.mem_of_getElem? (i := 192) rfl)) rfl, z_mem (List.mem_of_getElem? (i := 34) rfl) rfl, md_Group_countSetsKept⟩
theorem l_Group_109 : zMLS 5 109 m_Group_power := ⟨Or.inl (z_mem (zt_5 (List.mem_of_getElem? (i := 199) rfl)) rfl), z_mem (zt_5 (List.mem_of_getElem? (i := 200) rfl)) rfl, md_Group_power⟩
theorem l_Group_112 : zMLV 5 112 m_Group_isSetKept := ⟨Or.inl (z_mem (zt_5 (List.mem_of_getElem? (i := 194) rfl)) rfl), z_mem (zt_5 (List.mem_of_getElem? (i := 196) rfl)) rfl, z_mem (List.mem_of_getElem? (i := 35) rfl) rfl, md_Group_isSetKept⟩
theorem l_Group_115 : zMLS 5 115 m_T_isPart := ⟨Or.inr ⟨"TroupeSums", z_memN (zt_5 (List.mem_of_getElem? (i := 198) rfl)) rfl⟩, z_mem (zt_2 (List.mem_of_getElem? (i := 172) rfl)) rfl, md_T_isPart⟩
theorem l_Sorts_11 : zMLI 6 11 m_IntRow_init := ⟨Or.inl (z_mem (zt_1 (List.mem_of_getElem? (i := 147) rfl)) rfl), z_mem (zt_1 (List.mem_of_getElem? (i := 36) rfl)) rfl, rfl, rfl, md_IntRow_init⟩
theorem l_Sorts_40 : zMLV 6 40 m_IntRow_put := ⟨Or.inl (z_mem (zt_2 (List.mem_of_getElem? (i := 116) rfl)) rfl), z_mem (zt_2 (List.mem_of_getElem? (i := 86) rfl)) rfl, z_mem (zt_2 (List.mem_of_getElem? (i := 87) rfl)) rfl, md_IntRow_put⟩
theorem l_Sorts_49 : zMLV 6 49 m_IntRow_at := ⟨Or.inl (z_mem (zt_2 (List.mem_of_getElem? (i := 117) rfl)) rfl), z_mem (zt_2 (List.mem_of_getElem? (i := 90) rfl)) rfl, z_mem (zt_2 (List.mem_of_getElem? (i := 91) rfl)) rfl, md_IntRow_at⟩
theorem l_Sorts_53 : zMLS 6 53 m_T_isIn := ⟨Or.inr ⟨"TroupeSums", z_memN (zt_2 (List.mem_of_getElem? (i := 118) rfl)) rfl⟩, z_mem (zt_2 (List.mem_of_getElem? (i := 119) rfl)) rfl, md_T_isIn⟩
theorem l_Sorts_57 : zMLV 6 57 m_Group_spanOf := ⟨Or.inl (z_mem (zt_2 (List.mem_of_getElem? (i := 121) rfl)) rfl), z_mem (zt_2 (List.mem_of_getElem? (i := 122) rfl)) rfl, z_mem (zt_2 (List.mem_of_getElem? (i := 123) rfl)) rfl, md_Group_spanOf⟩
theorem l_Sorts_60 : zMLV 6 60 m_Sorts_addSubgroup := ⟨Or.inl (z_mem (zt_2 (List.mem_of_getElem? (i := 130) rfl)) rfl), z_mem (zt_2 (List.mem_of_getElem? (i := 132) rfl)) rfl, z_mem (List.mem_of_getElem? (i := 3) rfl) rfl, md_Sorts_addSubgroup⟩
theorem l_Sorts_63 : zMLV 6 63 m_Sorts_arrange := ⟨Or.inl (z_mem (zt_2 (List.mem_of_getElem? (i := 138) rfl)) rfl), z_mem (zt_2 (List.mem_of_getElem? (i := 140) rfl)) rfl, z_mem (List.mem_of_getElem? (i := 5) rfl) rfl, md_Sorts_arrange⟩
theorem l_Sorts_66 : zMLV 6 66 m_Sorts_numberSorts := ⟨Or.inl (z_mem (zt_2 (List.mem_of_getElem? (i := 151) rfl)) rfl), z_mem (zt_2 (List.mem_of_getElem? (i := 153) rfl)) rfl, z_mem (List.mem_of_getElem? (i := 6) rfl) rfl, md_Sorts_numberSorts⟩
theorem l_Sorts_69 : zMLV 6 69 m_Sorts_fillTable := ⟨Or.inl (z_mem (zt_2 (List.mem_of_getElem? (i := 163) rfl)) rfl), z_mem (zt_2 (List.mem_of_getElem? (i := 165) rfl)) rfl, z_mem (List.mem_of_getElem? (i := 7) rfl) rfl, md_Sorts_fillTable⟩
theorem l_Sorts_72 : zMLV 6 72 m_Sorts_indexOf := ⟨Or.inl (z_mem (zt_2 (List.mem_of_getElem? (i := 134) rfl)) rfl), z_mem (zt_2 (List.mem_of_getElem? (i := 136) rfl)) rfl, z_mem (List.mem_of_getElem? (i := 4) rfl) rfl, md_Sorts_indexOf⟩
theorem l_Sorts_75 : zMLS 6 75 m_Sorts_isAhead := ⟨Or.inl (z_mem (zt_2 (List.mem_of_getElem? (i := 142) rfl)) rfl), z_mem (zt_2 (List.mem_of_getElem? (i := 143) rfl)) rfl, md_Sorts_isAhead⟩
theorem l_Sorts_78 : zMLS 6 78 m_Integer_bitCount := ⟨Or.inl (z_mem (zt_2 (List.mem_of_getElem? (i := 145) rfl)) rfl), z_mem (zt_2 (List.mem_of_getElem? (i := 146) rfl)) rfl, md_Integer_bitCount⟩
theorem l_Sorts_86 : zMLV 6 86 m_Group_turnAll := ⟨Or.inl (z_mem (zt_2 (List.mem_of_getElem? (i := 155) rfl)) rfl), z_mem (zt_2 (List.mem_of_getElem? (i := 156) rfl)) rfl, z_mem (zt_2 (List.mem_of_getElem? (i := 157) rfl)) rfl, md_Group_turnAll⟩
theorem l_Sorts_90 : zMLV 6 90 m_Sorts_countTurned := ⟨Or.inl (z_mem (zt_2 (List.mem_of_getElem? (i := 167) rfl)) rfl), z_mem (zt_2 (List.mem_of_getElem? (i := 169) rfl)) rfl, z_mem (List.mem_of_getElem? (i := 8) rfl) rfl, md_Sorts_countTurned⟩
theorem l_Sorts_93 : zMLV 6 93 m_Sorts_markAt := ⟨Or.inl (z_mem (zt_2 (List.mem_of_getElem? (i := 174) rfl)) rfl), z_mem (zt_2 (List.mem_of_getElem? (i := 175) rfl)) rfl, z_mem (zt_2 (List.mem_of_getElem? (i := 176) rfl)) rfl, md_Sorts_markAt⟩
theorem l_Sorts_96 : zMLS 6 96 m_T_isPart := ⟨Or.inr ⟨"TroupeSums", z_memN (zt_2 (List.mem_of_getElem? (i := 171) rfl)) rfl⟩, z_mem (zt_2 (List.mem_of_getElem? (i := 172) rfl)) rfl, md_T_isPart⟩
theorem l_Sorts_99 : zMLV 6 99 m_Sorts_countWithin := ⟨Or.inl (z_mem (zt_4 (List.mem_of_getElem? (i := 116) rfl)) rfl), z_mem (zt_4 (List.mem_of_getElem? (i := 117) rfl)) rfl, z_mem (zt_4 (List.mem_of_getElem? (i := 118) rfl)) rfl, md_Sorts_countWithin⟩
theorem l_Sorts_102 : zMLV 6 102 m_Group_normOf := ⟨Or.inl (z_mem (zt_4 (List.mem_of_getElem? (i := 162) rfl)) rfl), z_mem (zt_4 (List.mem_of_getElem? (i := 121) rfl)) rfl, z_mem (zt_4 (List.mem_of_getElem? (i := 122) rfl)) rfl, md_Group_normOf⟩
theorem l_Sorts_105 : zMLS 6 105 m_Sorts_isPowerApart := ⟨Or.inl (z_mem (zt_4 (List.mem_of_getElem? (i := 163) rfl)) rfl), z_mem (zt_4 (List.mem_of_getElem? (i := 164) rfl)) rfl, md_Sorts_isPowerApart⟩
theorem l_Sorts_109 : zMLV 6 109 m_Sorts_residueOf := ⟨Or.inl (z_mem (zt_4 (List.mem_of_getElem? (i := 174) rfl)) rfl), z_mem (zt_4 (List.mem_of_getElem? (i := 159) rfl)) rfl, z_mem (zt_4 (List.mem_of_getElem? (i := 160) rfl)) rfl, md_Sorts_residueOf⟩
theorem l_Sorts_112 : zMLV 6 112 m_Sorts_spannedSort := ⟨Or.inl (z_mem (zt_5 (List.mem_of_getElem? (i := 151) rfl)) rfl), z_mem (zt_4 (List.mem_of_getElem? (i := 100) rfl)) rfl, z_mem (zt_4 (List.mem_of_getElem? (i := 101) rfl)) rfl, md_Sorts_spannedSort⟩
theorem l_Sorts_115 : zMLV 6 115 m_LongRow_at := ⟨Or.inl (z_mem (zt_5 (List.mem_of_getElem? (i := 152) rfl)) rfl), z_mem (zt_3 (List.mem_of_getElem? (i := 189) rfl)) rfl, z_mem (zt_3 (List.mem_of_getElem? (i := 190) rfl)) rfl, md_LongRow_at⟩
theorem l_Sorts_120 : zMLV 6 120 m_Sorts_normSize := ⟨Or.inl (z_mem (zt_5 (List.mem_of_getElem? (i := 222) rfl)) rfl), z_mem (zt_5 (List.mem_of_getElem? (i := 144) rfl)) rfl, z_mem (zt_5 (List.mem_of_getElem? (i := 145) rfl)) rfl, md_Sorts_normSize⟩
theorem l_Sorts_123 : zMLV 6 123 m_Sorts_sumOverNorm := ⟨Or.inl (z_mem (zt_5 (List.mem_of_getElem? (i := 223) rfl)) rfl), z_mem (zt_5 (List.mem_of_getElem? (i := 148) rfl)) rfl, z_mem (zt_5 (List.mem_of_getElem? (i := 149) rfl)) rfl, md_Sorts_sumOverNorm⟩
theorem l_Sums_13 : zMLI 7 13 m_LongRow_init := ⟨Or.inl (z_mem (zt_1 (List.mem_of_getElem? (i := 191) rfl)) rfl), z_mem (zt_1 (List.mem_of_getElem? (i := 192) rfl)) rfl, rfl, rfl, md_LongRow_init⟩
theorem l_Sums_27 : zMLV 7 27 m_LongRow_at := ⟨Or.inl (z_mem (zt_3 (List.mem_of_getElem? (i := 188) rfl)) rfl), z_mem (zt_3 (List.mem_of_getElem? (i := 189) rfl)) rfl, z_mem (zt_3 (List.mem_of_getElem? (i := 190) rfl)) rfl, md_LongRow_at⟩
theorem l_Sums_31 : zMLV 7 31 m_LongRow_put := ⟨Or.inl (z_mem (zt_2 (List.mem_of_getElem? (i := 186) rfl)) rfl), z_mem (zt_2 (List.mem_of_getElem? (i := 187) rfl)) rfl, z_mem (zt_2 (List.mem_of_getElem? (i := 188) rfl)) rfl, md_LongRow_put⟩
theorem l_Sums_45 : zMLV 7 45 m_IntRow_at := ⟨Or.inl (z_mem (zt_3 (List.mem_of_getElem? (i := 213) rfl)) rfl), z_mem (zt_2 (List.mem_of_getElem? (i := 90) rfl)) rfl, z_mem (zt_2 (List.mem_of_getElem? (i := 91) rfl)) rfl, md_IntRow_at⟩
theorem l_Sums_50 : zMLV 7 50 m_Sums_markOf := ⟨Or.inl (z_mem (zt_3 (List.mem_of_getElem? (i := 209) rfl)) rfl), z_mem (zt_3 (List.mem_of_getElem? (i := 210) rfl)) rfl, z_mem (zt_3 (List.mem_of_getElem? (i := 211) rfl)) rfl, md_Sums_markOf⟩
theorem l_Sums_54 : zMLV 7 54 m_Sorts_markAt := ⟨Or.inl (z_mem (zt_4 (List.mem_of_getElem? (i := 149) rfl)) rfl), z_mem (zt_2 (List.mem_of_getElem? (i := 175) rfl)) rfl, z_mem (zt_2 (List.mem_of_getElem? (i := 176) rfl)) rfl, md_Sorts_markAt⟩
theorem l_Sums_58 : zMLV 7 58 m_Sums_solve := ⟨Or.inl (z_mem (zt_3 (List.mem_of_getElem? (i := 218) rfl)) rfl), z_mem (zt_3 (List.mem_of_getElem? (i := 219) rfl)) rfl, z_mem (zt_3 (List.mem_of_getElem? (i := 220) rfl)) rfl, md_Sums_solve⟩
theorem l_Sums_61 : zMLS 7 61 m_T_isIn := ⟨Or.inr ⟨"TroupeSums", z_memN (zt_5 (List.mem_of_getElem? (i := 45) rfl)) rfl⟩, z_mem (zt_2 (List.mem_of_getElem? (i := 119) rfl)) rfl, md_T_isIn⟩
theorem l_Sums_67 : zMLV 7 67 m_Sums_numberAt := ⟨Or.inl (z_mem (zt_3 (List.mem_of_getElem? (i := 226) rfl)) rfl), z_mem (zt_3 (List.mem_of_getElem? (i := 227) rfl)) rfl, z_mem (zt_3 (List.mem_of_getElem? (i := 228) rfl)) rfl, md_Sums_numberAt⟩
theorem l_Sums_70 : zMLV 7 70 m_Sums_putNumber := ⟨Or.inl (z_mem (zt_4 (List.mem_of_getElem? (i := 7) rfl)) rfl), z_mem (zt_4 (List.mem_of_getElem? (i := 9) rfl)) rfl, z_mem (List.mem_of_getElem? (i := 26) rfl) rfl, md_Sums_putNumber⟩
theorem l_Units_11 : zMLI 9 11 m_IntRow_init := ⟨Or.inl (z_mem (zt_1 (List.mem_of_getElem? (i := 220) rfl)) rfl), z_mem (zt_1 (List.mem_of_getElem? (i := 36) rfl)) rfl, rfl, rfl, md_IntRow_init⟩
theorem l_Units_40 : zMLV 9 40 m_IntRow_put := ⟨Or.inl (z_mem (zt_5 (List.mem_of_getElem? (i := 64) rfl)) rfl), z_mem (zt_2 (List.mem_of_getElem? (i := 86) rfl)) rfl, z_mem (zt_2 (List.mem_of_getElem? (i := 87) rfl)) rfl, md_IntRow_put⟩
theorem l_Units_44 : zMLV 9 44 m_Units_narrowAt := ⟨Or.inl (z_mem (zt_5 (List.mem_of_getElem? (i := 65) rfl)) rfl), z_mem (zt_5 (List.mem_of_getElem? (i := 67) rfl)) rfl, z_mem (List.mem_of_getElem? (i := 30) rfl) rfl, md_Units_narrowAt⟩
theorem l_Units_47 : zMLV 9 47 m_Units_straighten := ⟨Or.inl (z_mem (zt_5 (List.mem_of_getElem? (i := 84) rfl)) rfl), z_mem (zt_5 (List.mem_of_getElem? (i := 86) rfl)) rfl, z_mem (List.mem_of_getElem? (i := 33) rfl) rfl, md_Units_straighten⟩
theorem l_Units_57 : zMLV 9 57 m_IntRow_at := ⟨Or.inl (z_mem (zt_5 (List.mem_of_getElem? (i := 69) rfl)) rfl), z_mem (zt_2 (List.mem_of_getElem? (i := 90) rfl)) rfl, z_mem (zt_2 (List.mem_of_getElem? (i := 91) rfl)) rfl, md_IntRow_at⟩
theorem l_Units_61 : zMLV 9 61 m_Group_normOf := ⟨Or.inl (z_mem (zt_5 (List.mem_of_getElem? (i := 70) rfl)) rfl), z_mem (zt_4 (List.mem_of_getElem? (i := 121) rfl)) rfl, z_mem (zt_4 (List.mem_of_getElem? (i := 122) rfl)) rfl, md_Group_normOf⟩
theorem l_Units_69 : zMLS 9 69 m_T_isIn := ⟨Or.inr ⟨"TroupeSums", z_memN (zt_5 (List.mem_of_getElem? (i := 71) rfl)) rfl⟩, z_mem (zt_2 (List.mem_of_getElem? (i := 119) rfl)) rfl, md_T_isIn⟩
theorem l_Units_73 : zMLV 9 73 m_Group_leastOfCoset := ⟨Or.inl (z_mem (zt_5 (List.mem_of_getElem? (i := 72) rfl)) rfl), z_mem (zt_4 (List.mem_of_getElem? (i := 201) rfl)) rfl, z_mem (zt_4 (List.mem_of_getElem? (i := 202) rfl)) rfl, md_Group_leastOfCoset⟩
theorem l_Units_77 : zMLV 9 77 m_Sorts_spannedSort := ⟨Or.inl (z_mem (zt_5 (List.mem_of_getElem? (i := 73) rfl)) rfl), z_mem (zt_4 (List.mem_of_getElem? (i := 100) rfl)) rfl, z_mem (zt_4 (List.mem_of_getElem? (i := 101) rfl)) rfl, md_Sorts_spannedSort⟩
theorem l_Units_80 : zMLV 9 80 m_Units_bitOf := ⟨Or.inl (z_mem (zt_5 (List.mem_of_getElem? (i := 74) rfl)) rfl), z_mem (zt_5 (List.mem_of_getElem? (i := 76) rfl)) rfl, z_mem (List.mem_of_getElem? (i := 31) rfl) rfl, md_Units_bitOf⟩
theorem l_Units_83 : zMLV 9 83 m_Group_both := ⟨Or.inl (z_mem (zt_5 (List.mem_of_getElem? (i := 78) rfl)) rfl), z_mem (zt_2 (List.mem_of_getElem? (i := 127) rfl)) rfl, z_mem (zt_2 (List.mem_of_getElem? (i := 128) rfl)) rfl, md_Group_both⟩
theorem l_Units_86 : zMLV 9 86 m_Units_narrow := ⟨Or.inl (z_mem (zt_5 (List.mem_of_getElem? (i := 79) rfl)) rfl), z_mem (zt_5 (List.mem_of_getElem? (i := 81) rfl)) rfl, z_mem (List.mem_of_getElem? (i := 32) rfl) rfl, md_Units_narrow⟩
theorem l_Units_89 : zMLS 9 89 m_Integer_bitCount := ⟨Or.inl (z_mem (zt_5 (List.mem_of_getElem? (i := 83) rfl)) rfl), z_mem (zt_2 (List.mem_of_getElem? (i := 146) rfl)) rfl, md_Integer_bitCount⟩
theorem l_Calc_11 : zMLI 10 11 m_IntRow_init := ⟨Or.inl (z_mem (zt_2 (List.mem_of_getElem? (i := 4) rfl)) rfl), z_mem (zt_1 (List.mem_of_getElem? (i := 36) rfl)) rfl, rfl, rfl, md_IntRow_init⟩
theorem l_Calc_43 : zMLV 10 43 m_Calc_topShelf := ⟨Or.inl (z_mem (zt_3 (List.mem_of_getElem? (i := 180) rfl)) rfl), z_mem (zt_3 (List.mem_of_getElem? (i := 182) rfl)) rfl, z_mem (List.mem_of_getElem? (i := 22) rfl) rfl, md_Calc_topShelf⟩
theorem l_Calc_47 : zMLV 10 47 m_IntRow_put := ⟨Or.inl (z_mem (zt_3 (List.mem_of_getElem? (i := 162) rfl)) rfl), z_mem (zt_2 (List.mem_of_getElem? (i := 86) rfl)) rfl, z_mem (zt_2 (List.mem_of_getElem? (i := 87) rfl)) rfl, md_IntRow_put⟩
theorem l_Calc_51 : zMLV 10 51 m_IntRow_at := ⟨Or.inl (z_mem (zt_4 (List.mem_of_getElem? (i := 2) rfl)) rfl), z_mem (zt_2 (List.mem_of_getElem? (i := 90) rfl)) rfl, z_mem (zt_2 (List.mem_of_getElem? (i := 91) rfl)) rfl, md_IntRow_at⟩
theorem l_Calc_55 : zMLV 10 55 m_Calc_pushSign := ⟨Or.inl (z_mem (zt_3 (List.mem_of_getElem? (i := 158) rfl)) rfl), z_mem (zt_3 (List.mem_of_getElem? (i := 160) rfl)) rfl, z_mem (List.mem_of_getElem? (i := 18) rfl) rfl, md_Calc_pushSign⟩
theorem l_Calc_58 : zMLV 10 58 m_Calc_nextShelf := ⟨Or.inl (z_mem (zt_3 (List.mem_of_getElem? (i := 176) rfl)) rfl), z_mem (zt_3 (List.mem_of_getElem? (i := 178) rfl)) rfl, z_mem (List.mem_of_getElem? (i := 21) rfl) rfl, md_Calc_nextShelf⟩
theorem l_Calc_61 : zMLV 10 61 m_Sums_putSingle := ⟨Or.inl (z_mem (zt_3 (List.mem_of_getElem? (i := 196) rfl)) rfl), z_mem (zt_2 (List.mem_of_getElem? (i := 183) rfl)) rfl, z_mem (zt_2 (List.mem_of_getElem? (i := 184) rfl)) rfl, md_Sums_putSingle⟩
theorem l_Calc_65 : zMLV 10 65 m_Sums_copy := ⟨Or.inl (z_mem (zt_3 (List.mem_of_getElem? (i := 184) rfl)) rfl), z_mem (zt_3 (List.mem_of_getElem? (i := 185) rfl)) rfl, z_mem (zt_3 (List.mem_of_getElem? (i := 186) rfl)) rfl, md_Sums_copy⟩
theorem l_Calc_77 : zMLV 10 77 m_Sums_multiply := ⟨Or.inl (z_mem (zt_3 (List.mem_of_getElem? (i := 205) rfl)) rfl), z_mem (zt_3 (List.mem_of_getElem? (i := 206) rfl)) rfl, z_mem (zt_3 (List.mem_of_getElem? (i := 207) rfl)) rfl, md_Sums_multiply⟩
theorem l_Calc_81 : zMLV 10 81 m_Sums_isInBounds := ⟨Or.inl (z_mem (zt_3 (List.mem_of_getElem? (i := 222) rfl)) rfl), z_mem (zt_3 (List.mem_of_getElem? (i := 223) rfl)) rfl, z_mem (zt_3 (List.mem_of_getElem? (i := 224) rfl)) rfl, md_Sums_isInBounds⟩
theorem l_Calc_85 : zMLV 10 85 m_Calc_settle := ⟨Or.inl (z_mem (zt_3 (List.mem_of_getElem? (i := 230) rfl)) rfl), z_mem (zt_3 (List.mem_of_getElem? (i := 232) rfl)) rfl, z_mem (List.mem_of_getElem? (i := 24) rfl) rfl, md_Calc_settle⟩
theorem l_Calc_89 : zMLV 10 89 m_Calc_topSign := ⟨Or.inl (z_mem (zt_3 (List.mem_of_getElem? (i := 238) rfl)) rfl), z_mem (zt_4 (List.mem_of_getElem? (i := 0) rfl)) rfl, z_mem (List.mem_of_getElem? (i := 25) rfl) rfl, md_Calc_topSign⟩
theorem l_Calc_92 : zMLV 10 92 m_Sums_putNegative := ⟨Or.inl (z_mem (zt_4 (List.mem_of_getElem? (i := 3) rfl)) rfl), z_mem (zt_4 (List.mem_of_getElem? (i := 4) rfl)) rfl, z_mem (zt_4 (List.mem_of_getElem? (i := 5) rfl)) rfl, md_Sums_putNegative⟩
theorem l_Calc_95 : zMLV 10 95 m_Calc_reckon := ⟨Or.inl (z_mem (zt_4 (List.mem_of_getElem? (i := 27) rfl)) rfl), z_mem (zt_4 (List.mem_of_getElem? (i := 12) rfl)) rfl, z_mem (zt_4 (List.mem_of_getElem? (i := 13) rfl)) rfl, md_Calc_reckon⟩
theorem l_Calc_98 : zMLV 10 98 m_Sums_add := ⟨Or.inl (z_mem (zt_4 (List.mem_of_getElem? (i := 15) rfl)) rfl), z_mem (zt_4 (List.mem_of_getElem? (i := 16) rfl)) rfl, z_mem (zt_4 (List.mem_of_getElem? (i := 17) rfl)) rfl, md_Sums_add⟩
theorem l_M_118 : zMLV 11 118 m_M_builds := ⟨Or.inl (z_mem (zt_6 (List.mem_of_getElem? (i := 12) rfl)) rfl), z_mem (zt_6 (List.mem_of_getElem? (i := 14) rfl)) rfl, z_mem (List.mem_of_getElem? (i := 36) rfl) rfl, md_M_builds⟩
theorem l_M_121 : zMLV 11 121 m_M_inForce := ⟨Or.inl (z_mem (zt_6 (List.mem_of_getElem? (i := 77) rfl)) rfl), z_mem (zt_6 (List.mem_of_getElem? (i := 79) rfl)) rfl, z_mem (List.mem_of_getElem? (i := 50) rfl) rfl, md_M_inForce⟩
theorem l_M_127 : zMLV 11 127 m_M_four := ⟨Or.inl (z_mem (zt_7 (List.mem_of_getElem? (i := 44) rfl)) rfl), z_mem (zt_7 (List.mem_of_getElem? (i := 46) rfl)) rfl, z_mem (List.mem_of_getElem? (i := 51) rfl) rfl, md_M_four⟩
theorem l_M_131 : zMLS 11 131 m_M_isIn := ⟨Or.inl (z_mem (zt_7 (List.mem_of_getElem? (i := 52) rfl)) rfl), z_mem (zt_7 (List.mem_of_getElem? (i := 53) rfl)) rfl, md_M_isIn⟩
theorem l_M_141 : zMLV 11 141 m_M_here := ⟨Or.inl (z_mem (zt_7 (List.mem_of_getElem? (i := 67) rfl)) rfl), z_mem (zt_7 (List.mem_of_getElem? (i := 69) rfl)) rfl, z_mem (List.mem_of_getElem? (i := 54) rfl) rfl, md_M_here⟩
theorem l_M_158 : zMLS 11 158 m_M_isLetter := ⟨Or.inl (z_mem (zt_7 (List.mem_of_getElem? (i := 71) rfl)) rfl), z_mem (zt_7 (List.mem_of_getElem? (i := 72) rfl)) rfl, md_M_isLetter⟩
theorem l_M_162 : zMLS 11 162 m_M_isDigit := ⟨Or.inl (z_mem (zt_7 (List.mem_of_getElem? (i := 74) rfl)) rfl), z_mem (zt_7 (List.mem_of_getElem? (i := 75) rfl)) rfl, md_M_isDigit⟩
theorem l_M_165 : zMLS 11 165 m_M_isSign := ⟨Or.inl (z_mem (zt_7 (List.mem_of_getElem? (i := 77) rfl)) rfl), z_mem (zt_7 (List.mem_of_getElem? (i := 78) rfl)) rfl, md_M_isSign⟩
theorem l_M_168 : zMLV 11 168 m_M_wrongAt := ⟨Or.inl (z_mem (zt_7 (List.mem_of_getElem? (i := 93) rfl)) rfl), z_mem (zt_7 (List.mem_of_getElem? (i := 95) rfl)) rfl, z_mem (List.mem_of_getElem? (i := 58) rfl) rfl, md_M_wrongAt⟩
theorem l_M_183 : zMLV 11 183 m_M_isGood := ⟨Or.inl (z_mem (zt_7 (List.mem_of_getElem? (i := 97) rfl)) rfl), z_mem (zt_7 (List.mem_of_getElem? (i := 99) rfl)) rfl, z_mem (List.mem_of_getElem? (i := 59) rfl) rfl, md_M_isGood⟩
theorem l_M_187 : zMLV 11 187 m_M_isSignHere := ⟨Or.inl (z_mem (zt_7 (List.mem_of_getElem? (i := 109) rfl)) rfl), z_mem (zt_7 (List.mem_of_getElem? (i := 111) rfl)) rfl, z_mem (List.mem_of_getElem? (i := 62) rfl) rfl, md_M_isSignHere⟩
theorem l_M_190 : zMLV 11 190 m_M_wrong := ⟨Or.inl (z_mem (zt_7 (List.mem_of_getElem? (i := 89) rfl)) rfl), z_mem (zt_7 (List.mem_of_getElem? (i := 91) rfl)) rfl, z_mem (List.mem_of_getElem? (i := 57) rfl) rfl, md_M_wrong⟩
theorem l_M_193 : zMLV 11 193 m_M_goOn := ⟨Or.inl (z_mem (zt_7 (List.mem_of_getElem? (i := 63) rfl)) rfl), z_mem (zt_7 (List.mem_of_getElem? (i := 65) rfl)) rfl, z_mem (List.mem_of_getElem? (i := 53) rfl) rfl, md_M_goOn⟩
theorem l_M_202 : zMLV 11 202 m_M_indexOf := ⟨Or.inl (z_mem (zt_6 (List.mem_of_getElem? (i := 20) rfl)) rfl), z_mem (zt_6 (List.mem_of_getElem? (i := 22) rfl)) rfl, z_mem (List.mem_of_getElem? (i := 38) rfl) rfl, md_M_indexOf⟩
theorem l_M_206 : zMLV 11 206 m_M_isBehind := ⟨Or.inl (z_mem (zt_6 (List.mem_of_getElem? (i := 24) rfl)) rfl), z_mem (zt_6 (List.mem_of_getElem? (i := 26) rfl)) rfl, z_mem (List.mem_of_getElem? (i := 39) rfl) rfl, md_M_isBehind⟩
theorem l_M_210 : zMLV 11 210 m_M_exchanges := ⟨Or.inl (z_mem (zt_6 (List.mem_of_getElem? (i := 28) rfl)) rfl), z_mem (zt_6 (List.mem_of_getElem? (i := 30) rfl)) rfl, z_mem (List.mem_of_getElem? (i := 40) rfl) rfl, md_M_exchanges⟩
theorem l_M_213 : zMLS 11 213 m_M_holds := ⟨Or.inl (z_mem (zt_6 (List.mem_of_getElem? (i := 32) rfl)) rfl), z_mem (zt_6 (List.mem_of_getElem? (i := 33) rfl)) rfl, md_M_holds⟩
theorem l_M_216 : zMLV 11 216 m_M_by := ⟨Or.inl (z_mem (zt_6 (List.mem_of_getElem? (i := 39) rfl)) rfl), z_mem (zt_6 (List.mem_of_getElem? (i := 41) rfl)) rfl, z_mem (List.mem_of_getElem? (i := 42) rfl) rfl, md_M_by⟩
theorem l_M_223 : zMLV 11 223 m_M_turned := ⟨Or.inl (z_mem (zt_6 (List.mem_of_getElem? (i := 51) rfl)) rfl), z_mem (zt_6 (List.mem_of_getElem? (i := 53) rfl)) rfl, z_mem (List.mem_of_getElem? (i := 45) rfl) rfl, md_M_turned⟩
theorem l_M_226 : zMLV 11 226 m_M_buildsMembers := ⟨Or.inl (z_mem (zt_6 (List.mem_of_getElem? (i := 16) rfl)) rfl), z_mem (zt_6 (List.mem_of_getElem? (i := 18) rfl)) rfl, z_mem (List.mem_of_getElem? (i := 37) rfl) rfl, md_M_buildsMembers⟩
theorem l_M_229 : zMLV 11 229 m_M_closed := ⟨Or.inl (z_mem (zt_6 (List.mem_of_getElem? (i := 35) rfl)) rfl), z_mem (zt_6 (List.mem_of_getElem? (i := 37) rfl)) rfl, z_mem (List.mem_of_getElem? (i := 41) rfl) rfl, md_M_closed⟩
theorem l_M_232 : zMLV 11 232 m_M_subIndex := ⟨Or.inl (z_mem (zt_6 (List.mem_of_getElem? (i := 43) rfl)) rfl), z_mem (zt_6 (List.mem_of_getElem? (i := 45) rfl)) rfl, z_mem (List.mem_of_getElem? (i := 43) rfl) rfl, md_M_subIndex⟩
theorem l_M_238 : zMLV 11 238 m_M_leastTurned := ⟨Or.inl (z_mem (zt_6 (List.mem_of_getElem? (i := 47) rfl)) rfl), z_mem (zt_6 (List.mem_of_getElem? (i := 49) rfl)) rfl, z_mem (List.mem_of_getElem? (i := 44) rfl) rfl, md_M_leastTurned⟩
theorem l_M_241 : zMLV 11 241 m_M_comesSort := ⟨Or.inl (z_mem (zt_6 (List.mem_of_getElem? (i := 55) rfl)) rfl), z_mem (zt_6 (List.mem_of_getElem? (i := 57) rfl)) rfl, z_mem (List.mem_of_getElem? (i := 46) rfl) rfl, md_M_comesSort⟩
theorem l_M_244 : zMLV 11 244 m_M_sortOfFirst := ⟨Or.inl (z_mem (zt_6 (List.mem_of_getElem? (i := 62) rfl)) rfl), z_mem (zt_6 (List.mem_of_getElem? (i := 64) rfl)) rfl, z_mem (List.mem_of_getElem? (i := 47) rfl) rfl, md_M_sortOfFirst⟩
theorem l_M_247 : zMLV 11 247 m_M_leastOf := ⟨Or.inl (z_mem (zt_6 (List.mem_of_getElem? (i := 66) rfl)) rfl), z_mem (zt_6 (List.mem_of_getElem? (i := 68) rfl)) rfl, z_mem (List.mem_of_getElem? (i := 48) rfl) rfl, md_M_leastOf⟩
theorem l_M_250 : zMLV 11 250 m_M_fixedOf := ⟨Or.inl (z_mem (zt_6 (List.mem_of_getElem? (i := 70) rfl)) rfl), z_mem (zt_6 (List.mem_of_getElem? (i := 72) rfl)) rfl, z_mem (List.mem_of_getElem? (i := 49) rfl) rfl, md_M_fixedOf⟩
theorem l_M_253 : zMLS 11 253 m_M_ones := ⟨Or.inl (z_mem (zt_6 (List.mem_of_getElem? (i := 59) rfl)) rfl), z_mem (zt_6 (List.mem_of_getElem? (i := 60) rfl)) rfl, md_M_ones⟩
theorem l_M_256 : zMLS 11 256 m_M_truth := ⟨Or.inl (z_mem (zt_6 (List.mem_of_getElem? (i := 74) rfl)) rfl), z_mem (zt_6 (List.mem_of_getElem? (i := 75) rfl)) rfl, md_M_truth⟩
theorem l_M_264 : zMLV 11 264 m_M_markAt := ⟨Or.inl (z_mem (zt_7 (List.mem_of_getElem? (i := 158) rfl)) rfl), z_mem (zt_7 (List.mem_of_getElem? (i := 160) rfl)) rfl, z_mem (List.mem_of_getElem? (i := 73) rfl) rfl, md_M_markAt⟩
theorem l_M_271 : zMLV 11 271 m_M_isFit := ⟨Or.inl (z_mem (zt_7 (List.mem_of_getElem? (i := 152) rfl)) rfl), z_mem (zt_7 (List.mem_of_getElem? (i := 154) rfl)) rfl, z_mem (List.mem_of_getElem? (i := 72) rfl) rfl, md_M_isFit⟩
theorem l_M_279 : zMLV 11 279 m_M_looks := ⟨Or.inl (z_mem (zt_7 (List.mem_of_getElem? (i := 148) rfl)) rfl), z_mem (zt_7 (List.mem_of_getElem? (i := 150) rfl)) rfl, z_mem (List.mem_of_getElem? (i := 71) rfl) rfl, md_M_looks⟩
theorem l_M_282 : zMLV 11 282 m_M_marksOf := ⟨Or.inl (z_mem (zt_7 (List.mem_of_getElem? (i := 170) rfl)) rfl), z_mem (zt_7 (List.mem_of_getElem? (i := 172) rfl)) rfl, z_mem (List.mem_of_getElem? (i := 76) rfl) rfl, md_M_marksOf⟩
theorem l_M_286 : zMLV 11 286 m_M_multiplies := ⟨Or.inl (z_mem (zt_7 (List.mem_of_getElem? (i := 174) rfl)) rfl), z_mem (zt_7 (List.mem_of_getElem? (i := 176) rfl)) rfl, z_mem (List.mem_of_getElem? (i := 77) rfl) rfl, md_M_multiplies⟩
theorem l_M_289 : zMLV 11 289 m_M_numbers := ⟨Or.inl (z_mem (zt_7 (List.mem_of_getElem? (i := 178) rfl)) rfl), z_mem (zt_7 (List.mem_of_getElem? (i := 180) rfl)) rfl, z_mem (List.mem_of_getElem? (i := 78) rfl) rfl, md_M_numbers⟩
theorem l_M_302 : zMLV 11 302 m_M_countsUnit := ⟨Or.inl (z_mem (zt_7 (List.mem_of_getElem? (i := 140) rfl)) rfl), z_mem (zt_7 (List.mem_of_getElem? (i := 142) rfl)) rfl, z_mem (List.mem_of_getElem? (i := 69) rfl) rfl, md_M_countsUnit⟩
theorem l_M_308 : zMLV 11 308 m_M_lays := ⟨Or.inl (z_mem (zt_7 (List.mem_of_getElem? (i := 144) rfl)) rfl), z_mem (zt_7 (List.mem_of_getElem? (i := 146) rfl)) rfl, z_mem (List.mem_of_getElem? (i := 70) rfl) rfl, md_M_lays⟩
theorem l_M_312 : zMLV 11 312 m_M_isWord := ⟨Or.inl (z_mem (zt_7 (List.mem_of_getElem? (i := 85) rfl)) rfl), z_mem (zt_7 (List.mem_of_getElem? (i := 87) rfl)) rfl, z_mem (List.mem_of_getElem? (i := 56) rfl) rfl, md_M_isWord⟩
theorem l_M_316 : zMLV 11 316 m_M_isName := ⟨Or.inl (z_mem (zt_7 (List.mem_of_getElem? (i := 123) rfl)) rfl), z_mem (zt_7 (List.mem_of_getElem? (i := 125) rfl)) rfl, z_mem (List.mem_of_getElem? (i := 65) rfl) rfl, md_M_isName⟩
theorem l_M_319 : zMLV 11 319 m_M_nameAt := ⟨Or.inl (z_mem (zt_7 (List.mem_of_getElem? (i := 128) rfl)) rfl), z_mem (zt_7 (List.mem_of_getElem? (i := 130) rfl)) rfl, z_mem (List.mem_of_getElem? (i := 66) rfl) rfl, md_M_nameAt⟩
theorem l_M_322 : zMLV 11 322 m_M_number := ⟨Or.inl (z_mem (zt_7 (List.mem_of_getElem? (i := 101) rfl)) rfl), z_mem (zt_7 (List.mem_of_getElem? (i := 103) rfl)) rfl, z_mem (List.mem_of_getElem? (i := 60) rfl) rfl, md_M_number⟩
theorem l_M_325 : zMLV 11 325 m_M_powers := ⟨Or.inl (z_mem (zt_7 (List.mem_of_getElem? (i := 166) rfl)) rfl), z_mem (zt_7 (List.mem_of_getElem? (i := 168) rfl)) rfl, z_mem (List.mem_of_getElem? (i := 75) rfl) rfl, md_M_powers⟩
theorem l_M_328 : zMLV 11 328 m_M_negates := ⟨Or.inl (z_mem (zt_7 (List.mem_of_getElem? (i := 182) rfl)) rfl), z_mem (zt_7 (List.mem_of_getElem? (i := 184) rfl)) rfl, z_mem (List.mem_of_getElem? (i := 79) rfl) rfl, md_M_negates⟩
theorem l_M_331 : zMLV 11 331 m_M_timesTwo := ⟨Or.inl (z_mem (zt_7 (List.mem_of_getElem? (i := 198) rfl)) rfl), z_mem (zt_7 (List.mem_of_getElem? (i := 200) rfl)) rfl, z_mem (List.mem_of_getElem? (i := 83) rfl) rfl, md_M_timesTwo⟩
theorem l_M_334 : zMLV 11 334 m_M_adds := ⟨Or.inl (z_mem (zt_7 (List.mem_of_getElem? (i := 202) rfl)) rfl), z_mem (zt_7 (List.mem_of_getElem? (i := 204) rfl)) rfl, z_mem (List.mem_of_getElem? (i := 84) rfl) rfl, md_M_adds⟩
theorem l_M_337 : zMLV 11 337 m_M_works := ⟨Or.inl (z_mem (zt_7 (List.mem_of_getElem? (i := 194) rfl)) rfl), z_mem (zt_7 (List.mem_of_getElem? (i := 196) rfl)) rfl, z_mem (List.mem_of_getElem? (i := 82) rfl) rfl, md_M_works⟩
theorem l_M_340 : zMLV 11 340 m_M_waitsFor := ⟨Or.inl (z_mem (zt_7 (List.mem_of_getElem? (i := 190) rfl)) rfl), z_mem (zt_7 (List.mem_of_getElem? (i := 192) rfl)) rfl, z_mem (List.mem_of_getElem? (i := 81) rfl) rfl, md_M_waitsFor⟩
theorem l_M_343 : zMLV 11 343 m_M_operand := ⟨Or.inl (z_mem (zt_7 (List.mem_of_getElem? (i := 136) rfl)) rfl), z_mem (zt_7 (List.mem_of_getElem? (i := 138) rfl)) rfl, z_mem (List.mem_of_getElem? (i := 68) rfl) rfl, md_M_operand⟩
theorem l_M_346 : zMLV 11 346 m_M_closes := ⟨Or.inl (z_mem (zt_7 (List.mem_of_getElem? (i := 162) rfl)) rfl), z_mem (zt_7 (List.mem_of_getElem? (i := 164) rfl)) rfl, z_mem (List.mem_of_getElem? (i := 74) rfl) rfl, md_M_closes⟩
theorem l_M_349 : zMLV 11 349 m_M_goesOn := ⟨Or.inl (z_mem (zt_7 (List.mem_of_getElem? (i := 186) rfl)) rfl), z_mem (zt_7 (List.mem_of_getElem? (i := 188) rfl)) rfl, z_mem (List.mem_of_getElem? (i := 80) rfl) rfl, md_M_goesOn⟩
theorem l_M_352 : zMLV 11 352 m_M_isOpen := ⟨Or.inl (z_mem (zt_7 (List.mem_of_getElem? (i := 206) rfl)) rfl), z_mem (zt_7 (List.mem_of_getElem? (i := 208) rfl)) rfl, z_mem (List.mem_of_getElem? (i := 85) rfl) rfl, md_M_isOpen⟩
theorem l_M_355 : zMLV 11 355 m_M_must := ⟨Or.inl (z_mem (zt_7 (List.mem_of_getElem? (i := 105) rfl)) rfl), z_mem (zt_7 (List.mem_of_getElem? (i := 107) rfl)) rfl, z_mem (List.mem_of_getElem? (i := 61) rfl) rfl, md_M_must⟩
theorem l_M_358 : zMLV 11 358 m_M_formula := ⟨Or.inl (z_mem (zt_7 (List.mem_of_getElem? (i := 132) rfl)) rfl), z_mem (zt_7 (List.mem_of_getElem? (i := 134) rfl)) rfl, z_mem (List.mem_of_getElem? (i := 67) rfl) rfl, md_M_formula⟩
theorem l_M_361 : zMLV 11 361 m_M_moveLine := ⟨Or.inl (z_mem (zt_7 (List.mem_of_getElem? (i := 114) rfl)) rfl), z_mem (zt_7 (List.mem_of_getElem? (i := 116) rfl)) rfl, z_mem (List.mem_of_getElem? (i := 63) rfl) rfl, md_M_moveLine⟩
theorem l_M_364 : zMLV 11 364 m_M_letLine := ⟨Or.inl (z_mem (zt_7 (List.mem_of_getElem? (i := 119) rfl)) rfl), z_mem (zt_7 (List.mem_of_getElem? (i := 121) rfl)) rfl, z_mem (List.mem_of_getElem? (i := 64) rfl) rfl, md_M_letLine⟩
theorem l_M_367 : zMLV 11 367 m_M_begins := ⟨Or.inl (z_mem (zt_7 (List.mem_of_getElem? (i := 59) rfl)) rfl), z_mem (zt_7 (List.mem_of_getElem? (i := 61) rfl)) rfl, z_mem (List.mem_of_getElem? (i := 52) rfl) rfl, md_M_begins⟩
theorem l_M_370 : zMLV 11 370 m_M_reads := ⟨Or.inl (z_mem (zt_7 (List.mem_of_getElem? (i := 80) rfl)) rfl), z_mem (zt_7 (List.mem_of_getElem? (i := 82) rfl)) rfl, z_mem (List.mem_of_getElem? (i := 55) rfl) rfl, md_M_reads⟩
theorem l_M_373 : zMLV 11 373 m_M_tells := ⟨Or.inl (z_mem (zt_7 (List.mem_of_getElem? (i := 210) rfl)) rfl), z_mem (zt_7 (List.mem_of_getElem? (i := 212) rfl)) rfl, z_mem (List.mem_of_getElem? (i := 86) rfl) rfl, md_M_tells⟩
theorem l_M_376 : zMLV 11 376 m_M_goesBack := ⟨Or.inl (z_mem (zt_7 (List.mem_of_getElem? (i := 214) rfl)) rfl), z_mem (zt_7 (List.mem_of_getElem? (i := 216) rfl)) rfl, z_mem (List.mem_of_getElem? (i := 87) rfl) rfl, md_M_goesBack⟩
theorem l_M_397 : zMLV 11 397 m_M_areAlike := ⟨Or.inl (z_mem (zt_7 (List.mem_of_getElem? (i := 226) rfl)) rfl), z_mem (zt_7 (List.mem_of_getElem? (i := 228) rfl)) rfl, z_mem (List.mem_of_getElem? (i := 88) rfl) rfl, md_M_areAlike⟩
theorem l_M_400 : zMLV 11 400 m_M_isMember := ⟨Or.inl (z_mem (zt_7 (List.mem_of_getElem? (i := 234) rfl)) rfl), z_mem (zt_7 (List.mem_of_getElem? (i := 236) rfl)) rfl, z_mem (List.mem_of_getElem? (i := 89) rfl) rfl, md_M_isMember⟩
theorem l_M_403 : zMLV 11 403 m_M_timesOf := ⟨Or.inl (z_mem (zt_8 (List.mem_of_getElem? (i := 6) rfl)) rfl), z_mem (zt_8 (List.mem_of_getElem? (i := 8) rfl)) rfl, z_mem (List.mem_of_getElem? (i := 90) rfl) rfl, md_M_timesOf⟩
theorem l_M_408 : zMLV 11 408 m_M_areMembers := ⟨Or.inl (z_mem (zt_8 (List.mem_of_getElem? (i := 23) rfl)) rfl), z_mem (zt_8 (List.mem_of_getElem? (i := 25) rfl)) rfl, z_mem (List.mem_of_getElem? (i := 91) rfl) rfl, md_M_areMembers⟩
theorem l_M_411 : zMLV 11 411 m_M_sortOfSet := ⟨Or.inl (z_mem (zt_8 (List.mem_of_getElem? (i := 31) rfl)) rfl), z_mem (zt_8 (List.mem_of_getElem? (i := 33) rfl)) rfl, z_mem (List.mem_of_getElem? (i := 92) rfl) rfl, md_M_sortOfSet⟩
theorem l_M_414 : zMLV 11 414 m_M_isSort := ⟨Or.inl (z_mem (zt_8 (List.mem_of_getElem? (i := 39) rfl)) rfl), z_mem (zt_8 (List.mem_of_getElem? (i := 41) rfl)) rfl, z_mem (List.mem_of_getElem? (i := 93) rfl) rfl, md_M_isSort⟩
theorem l_M_417 : zMLV 11 417 m_M_normOf := ⟨Or.inl (z_mem (zt_8 (List.mem_of_getElem? (i := 43) rfl)) rfl), z_mem (zt_8 (List.mem_of_getElem? (i := 45) rfl)) rfl, z_mem (List.mem_of_getElem? (i := 94) rfl) rfl, md_M_normOf⟩
theorem l_M_420 : zMLV 11 420 m_M_isOfOne := ⟨Or.inl (z_mem (zt_8 (List.mem_of_getElem? (i := 47) rfl)) rfl), z_mem (zt_8 (List.mem_of_getElem? (i := 49) rfl)) rfl, z_mem (List.mem_of_getElem? (i := 95) rfl) rfl, md_M_isOfOne⟩
theorem l_M_423 : zMLV 11 423 m_M_worksProduct := ⟨Or.inl (z_mem (zt_8 (List.mem_of_getElem? (i := 71) rfl)) rfl), z_mem (zt_8 (List.mem_of_getElem? (i := 73) rfl)) rfl, z_mem (List.mem_of_getElem? (i := 96) rfl) rfl, md_M_worksProduct⟩
theorem l_M_426 : zMLS 11 426 m_M_isPrime := ⟨Or.inl (z_mem (zt_8 (List.mem_of_getElem? (i := 83) rfl)) rfl), z_mem (zt_8 (List.mem_of_getElem? (i := 84) rfl)) rfl, md_M_isPrime⟩
theorem l_M_429 : zMLV 11 429 m_M_residueOf := ⟨Or.inl (z_mem (zt_8 (List.mem_of_getElem? (i := 86) rfl)) rfl), z_mem (zt_8 (List.mem_of_getElem? (i := 88) rfl)) rfl, z_mem (List.mem_of_getElem? (i := 97) rfl) rfl, md_M_residueOf⟩
theorem l_M_432 : zMLV 11 432 m_M_blockOf := ⟨Or.inl (z_mem (zt_8 (List.mem_of_getElem? (i := 94) rfl)) rfl), z_mem (zt_8 (List.mem_of_getElem? (i := 96) rfl)) rfl, z_mem (List.mem_of_getElem? (i := 98) rfl) rfl, md_M_blockOf⟩
theorem l_M_442 : zMLS 11 442 m_M_divisor := ⟨Or.inl (z_mem (zt_8 (List.mem_of_getElem? (i := 143) rfl)) rfl), z_mem (zt_8 (List.mem_of_getElem? (i := 144) rfl)) rfl, md_M_divisor⟩
theorem l_M_446 : zMLV 11 446 m_M_sumWith := ⟨Or.inl (z_mem (zt_8 (List.mem_of_getElem? (i := 139) rfl)) rfl), z_mem (zt_8 (List.mem_of_getElem? (i := 141) rfl)) rfl, z_mem (List.mem_of_getElem? (i := 100) rfl) rfl, md_M_sumWith⟩
theorem l_M_450 : zMLV 11 450 m_M_peaks := ⟨Or.inl (z_mem (zt_8 (List.mem_of_getElem? (i := 135) rfl)) rfl), z_mem (zt_8 (List.mem_of_getElem? (i := 137) rfl)) rfl, z_mem (List.mem_of_getElem? (i := 99) rfl) rfl, md_M_peaks⟩
theorem l_M_456 : zMLV 11 456 m_M_laysMade := ⟨Or.inl (z_mem (zt_8 (List.mem_of_getElem? (i := 158) rfl)) rfl), z_mem (zt_8 (List.mem_of_getElem? (i := 160) rfl)) rfl, z_mem (List.mem_of_getElem? (i := 102) rfl) rfl, md_M_laysMade⟩
theorem l_M_462 : zMLV 11 462 m_M_isUnitAt := ⟨Or.inl (z_mem (zt_8 (List.mem_of_getElem? (i := 162) rfl)) rfl), z_mem (zt_8 (List.mem_of_getElem? (i := 164) rfl)) rfl, z_mem (List.mem_of_getElem? (i := 103) rfl) rfl, md_M_isUnitAt⟩
theorem l_M_465 : zMLV 11 465 m_M_laysUnits := ⟨Or.inl (z_mem (zt_8 (List.mem_of_getElem? (i := 154) rfl)) rfl), z_mem (zt_8 (List.mem_of_getElem? (i := 156) rfl)) rfl, z_mem (List.mem_of_getElem? (i := 101) rfl) rfl, md_M_laysUnits⟩
theorem l_M_472 : zMLV 11 472 m_M_laysMarks := ⟨Or.inl (z_mem (zt_8 (List.mem_of_getElem? (i := 200) rfl)) rfl), z_mem (zt_8 (List.mem_of_getElem? (i := 202) rfl)) rfl, z_mem (List.mem_of_getElem? (i := 104) rfl) rfl, md_M_laysMarks⟩
theorem l_M_475 : zMLV 11 475 m_M_congruenceOf := ⟨Or.inl (z_mem (zt_8 (List.mem_of_getElem? (i := 204) rfl)) rfl), z_mem (zt_8 (List.mem_of_getElem? (i := 206) rfl)) rfl, z_mem (List.mem_of_getElem? (i := 105) rfl) rfl, md_M_congruenceOf⟩
theorem l_M_481 : zMLV 11 481 m_M_act := ⟨Or.inl (z_mem (zt_8 (List.mem_of_getElem? (i := 217) rfl)) rfl), z_mem (zt_8 (List.mem_of_getElem? (i := 219) rfl)) rfl, z_mem (List.mem_of_getElem? (i := 106) rfl) rfl, md_M_act⟩
theorem l_M_484 : zMLV 11 484 m_M_parts := ⟨Or.inl (z_mem (zt_8 (List.mem_of_getElem? (i := 221) rfl)) rfl), z_mem (zt_8 (List.mem_of_getElem? (i := 193) rfl)) rfl, z_mem (zt_8 (List.mem_of_getElem? (i := 194) rfl)) rfl, md_M_parts⟩
theorem l_M_490 : zMLV 11 490 m_M_setsOf := ⟨Or.inl (z_mem (zt_8 (List.mem_of_getElem? (i := 236) rfl)) rfl), z_mem (zt_8 (List.mem_of_getElem? (i := 238) rfl)) rfl, z_mem (List.mem_of_getElem? (i := 109) rfl) rfl, md_M_setsOf⟩
theorem l_M_497 : zMLV 11 497 m_M_laysParts := ⟨Or.inl (z_mem (zt_8 (List.mem_of_getElem? (i := 228) rfl)) rfl), z_mem (zt_8 (List.mem_of_getElem? (i := 230) rfl)) rfl, z_mem (List.mem_of_getElem? (i := 107) rfl) rfl, md_M_laysParts⟩
theorem l_M_500 : zMLV 11 500 m_M_fixedBy := ⟨Or.inl (z_mem (zt_8 (List.mem_of_getElem? (i := 232) rfl)) rfl), z_mem (zt_8 (List.mem_of_getElem? (i := 234) rfl)) rfl, z_mem (List.mem_of_getElem? (i := 108) rfl) rfl, md_M_fixedBy⟩
theorem l_M_514 : zMLV 11 514 m_M_isBlank := ⟨Or.inl (z_mem (zt_9 (List.mem_of_getElem? (i := 8) rfl)) rfl), z_mem (zt_9 (List.mem_of_getElem? (i := 10) rfl)) rfl, z_mem (List.mem_of_getElem? (i := 111) rfl) rfl, md_M_isBlank⟩
theorem l_M_517 : zMLV 11 517 m_M_readsNumber := ⟨Or.inl (z_mem (zt_9 (List.mem_of_getElem? (i := 12) rfl)) rfl), z_mem (zt_9 (List.mem_of_getElem? (i := 14) rfl)) rfl, z_mem (List.mem_of_getElem? (i := 112) rfl) rfl, md_M_readsNumber⟩
theorem l_M_520 : zMLV 11 520 m_M_readsMarks := ⟨Or.inl (z_mem (zt_9 (List.mem_of_getElem? (i := 4) rfl)) rfl), z_mem (zt_9 (List.mem_of_getElem? (i := 6) rfl)) rfl, z_mem (List.mem_of_getElem? (i := 110) rfl) rfl, md_M_readsMarks⟩
theorem l_Law_9 : zMLI 12 9 m_T_init := ⟨Or.inl (z_mem (zt_1 (List.mem_of_getElem? (i := 21) rfl)) rfl), z_mem (zt_1 (List.mem_of_getElem? (i := 22) rfl)) rfl, rfl, rfl, md_T_init⟩
theorem l_Law_12 : zMLI 12 12 m_M_init := ⟨Or.inl (z_mem (zt_6 (List.mem_of_getElem? (i := 7) rfl)) rfl), z_mem (zt_6 (List.mem_of_getElem? (i := 8) rfl)) rfl, rfl, rfl, md_M_init⟩
theorem l_Law_13 : zMLV 12 13 m_T_feed := ⟨Or.inl (z_mem (zt_2 (List.mem_of_getElem? (i := 203) rfl)) rfl), z_mem (zt_2 (List.mem_of_getElem? (i := 204) rfl)) rfl, z_mem (zt_2 (List.mem_of_getElem? (i := 205) rfl)) rfl, md_T_feed⟩
theorem l_Law_17 : zMLV 12 17 m_M_feed := ⟨Or.inl (z_mem (zt_7 (List.mem_of_getElem? (i := 40) rfl)) rfl), z_mem (zt_7 (List.mem_of_getElem? (i := 41) rfl)) rfl, z_mem (zt_7 (List.mem_of_getElem? (i := 42) rfl)) rfl, md_M_feed⟩
theorem l_Law_18 : zMLV 12 18 m_T_end := ⟨Or.inl (z_mem (zt_2 (List.mem_of_getElem? (i := 212) rfl)) rfl), z_mem (zt_2 (List.mem_of_getElem? (i := 213) rfl)) rfl, z_mem (zt_2 (List.mem_of_getElem? (i := 214) rfl)) rfl, md_T_end⟩
theorem l_Law_22 : zMLV 12 22 m_M_end := ⟨Or.inl (z_mem (zt_7 (List.mem_of_getElem? (i := 48) rfl)) rfl), z_mem (zt_7 (List.mem_of_getElem? (i := 49) rfl)) rfl, z_mem (zt_7 (List.mem_of_getElem? (i := 50) rfl)) rfl, md_M_end⟩
theorem l_Law_23 : zMLV 12 23 m_T_troupe := ⟨Or.inl (z_mem (zt_2 (List.mem_of_getElem? (i := 216) rfl)) rfl), z_mem (zt_2 (List.mem_of_getElem? (i := 217) rfl)) rfl, z_mem (zt_2 (List.mem_of_getElem? (i := 218) rfl)) rfl, md_T_troupe⟩
theorem l_Law_27 : zMLV 12 27 m_M_troupe := ⟨Or.inl (z_mem (zt_7 (List.mem_of_getElem? (i := 55) rfl)) rfl), z_mem (zt_7 (List.mem_of_getElem? (i := 56) rfl)) rfl, z_mem (zt_7 (List.mem_of_getElem? (i := 57) rfl)) rfl, md_M_troupe⟩
theorem l_Law_28 : zMLV 12 28 m_T_fault := ⟨Or.inl (z_mem (zt_4 (List.mem_of_getElem? (i := 35) rfl)) rfl), z_mem (zt_4 (List.mem_of_getElem? (i := 36) rfl)) rfl, z_mem (zt_4 (List.mem_of_getElem? (i := 37) rfl)) rfl, md_T_fault⟩
theorem l_Law_31 : zMLV 12 31 m_M_fault := ⟨Or.inl (z_mem (zt_7 (List.mem_of_getElem? (i := 218) rfl)) rfl), z_mem (zt_7 (List.mem_of_getElem? (i := 219) rfl)) rfl, z_mem (zt_7 (List.mem_of_getElem? (i := 220) rfl)) rfl, md_M_fault⟩
theorem l_Law_32 : zMLV 12 32 m_T_about := ⟨Or.inl (z_mem (zt_4 (List.mem_of_getElem? (i := 39) rfl)) rfl), z_mem (zt_4 (List.mem_of_getElem? (i := 40) rfl)) rfl, z_mem (zt_4 (List.mem_of_getElem? (i := 41) rfl)) rfl, md_T_about⟩
theorem l_Law_35 : zMLV 12 35 m_M_about := ⟨Or.inl (z_mem (zt_7 (List.mem_of_getElem? (i := 222) rfl)) rfl), z_mem (zt_7 (List.mem_of_getElem? (i := 223) rfl)) rfl, z_mem (zt_7 (List.mem_of_getElem? (i := 224) rfl)) rfl, md_M_about⟩
theorem l_Law_36 : zMLV 12 36 m_T_moves := ⟨Or.inl (z_mem (zt_4 (List.mem_of_getElem? (i := 59) rfl)) rfl), z_mem (zt_4 (List.mem_of_getElem? (i := 60) rfl)) rfl, z_mem (zt_4 (List.mem_of_getElem? (i := 61) rfl)) rfl, md_T_moves⟩
theorem l_Law_40 : zMLV 12 40 m_M_moves := ⟨Or.inl (z_mem (zt_7 (List.mem_of_getElem? (i := 230) rfl)) rfl), z_mem (zt_7 (List.mem_of_getElem? (i := 231) rfl)) rfl, z_mem (zt_7 (List.mem_of_getElem? (i := 232) rfl)) rfl, md_M_moves⟩
theorem l_Law_41 : zMLV 12 41 m_T_times := ⟨Or.inl (z_mem (zt_4 (List.mem_of_getElem? (i := 73) rfl)) rfl), z_mem (zt_4 (List.mem_of_getElem? (i := 74) rfl)) rfl, z_mem (zt_4 (List.mem_of_getElem? (i := 75) rfl)) rfl, md_T_times⟩
theorem l_Law_44 : zMLV 12 44 m_M_times := ⟨Or.inl (z_mem (zt_7 (List.mem_of_getElem? (i := 238) rfl)) rfl), z_mem (zt_7 (List.mem_of_getElem? (i := 239) rfl)) rfl, z_mem (zt_8 (List.mem_of_getElem? (i := 0) rfl)) rfl, md_M_times⟩
theorem l_Law_45 : zMLV 12 45 m_T_order := ⟨Or.inl (z_mem (zt_4 (List.mem_of_getElem? (i := 78) rfl)) rfl), z_mem (zt_4 (List.mem_of_getElem? (i := 79) rfl)) rfl, z_mem (zt_4 (List.mem_of_getElem? (i := 80) rfl)) rfl, md_T_order⟩
theorem l_Law_48 : zMLV 12 48 m_M_order := ⟨Or.inl (z_mem (zt_8 (List.mem_of_getElem? (i := 2) rfl)) rfl), z_mem (zt_8 (List.mem_of_getElem? (i := 3) rfl)) rfl, z_mem (zt_8 (List.mem_of_getElem? (i := 4) rfl)) rfl, md_M_order⟩
theorem l_Law_49 : zMLV 12 49 m_T_makesOf := ⟨Or.inl (z_mem (zt_4 (List.mem_of_getElem? (i := 86) rfl)) rfl), z_mem (zt_4 (List.mem_of_getElem? (i := 87) rfl)) rfl, z_mem (zt_4 (List.mem_of_getElem? (i := 88) rfl)) rfl, md_T_makesOf⟩
theorem l_Law_52 : zMLV 12 52 m_M_makesOf := ⟨Or.inl (z_mem (zt_8 (List.mem_of_getElem? (i := 19) rfl)) rfl), z_mem (zt_8 (List.mem_of_getElem? (i := 20) rfl)) rfl, z_mem (zt_8 (List.mem_of_getElem? (i := 21) rfl)) rfl, md_M_makesOf⟩
theorem l_Law_53 : zMLV 12 53 m_T_sortOf := ⟨Or.inl (z_mem (zt_4 (List.mem_of_getElem? (i := 95) rfl)) rfl), z_mem (zt_4 (List.mem_of_getElem? (i := 96) rfl)) rfl, z_mem (zt_4 (List.mem_of_getElem? (i := 97) rfl)) rfl, md_T_sortOf⟩
theorem l_Law_56 : zMLV 12 56 m_M_sortOf := ⟨Or.inl (z_mem (zt_8 (List.mem_of_getElem? (i := 27) rfl)) rfl), z_mem (zt_8 (List.mem_of_getElem? (i := 28) rfl)) rfl, z_mem (zt_8 (List.mem_of_getElem? (i := 29) rfl)) rfl, md_M_sortOf⟩
theorem l_Law_57 : zMLV 12 57 m_T_sort := ⟨Or.inl (z_mem (zt_4 (List.mem_of_getElem? (i := 103) rfl)) rfl), z_mem (zt_4 (List.mem_of_getElem? (i := 104) rfl)) rfl, z_mem (zt_4 (List.mem_of_getElem? (i := 105) rfl)) rfl, md_T_sort⟩
theorem l_Law_60 : zMLV 12 60 m_M_sort := ⟨Or.inl (z_mem (zt_8 (List.mem_of_getElem? (i := 35) rfl)) rfl), z_mem (zt_8 (List.mem_of_getElem? (i := 36) rfl)) rfl, z_mem (zt_8 (List.mem_of_getElem? (i := 37) rfl)) rfl, md_M_sort⟩
theorem l_Law_61 : zMLV 12 61 m_T_within := ⟨Or.inl (z_mem (zt_4 (List.mem_of_getElem? (i := 131) rfl)) rfl), z_mem (zt_4 (List.mem_of_getElem? (i := 132) rfl)) rfl, z_mem (zt_4 (List.mem_of_getElem? (i := 133) rfl)) rfl, md_T_within⟩
theorem l_Law_64 : zMLV 12 64 m_M_within := ⟨Or.inl (z_mem (zt_8 (List.mem_of_getElem? (i := 59) rfl)) rfl), z_mem (zt_8 (List.mem_of_getElem? (i := 60) rfl)) rfl, z_mem (zt_8 (List.mem_of_getElem? (i := 61) rfl)) rfl, md_M_within⟩
theorem l_Law_65 : zMLV 12 65 m_T_mark := ⟨Or.inl (z_mem (zt_4 (List.mem_of_getElem? (i := 136) rfl)) rfl), z_mem (zt_4 (List.mem_of_getElem? (i := 137) rfl)) rfl, z_mem (zt_4 (List.mem_of_getElem? (i := 138) rfl)) rfl, md_T_mark⟩
theorem l_Law_68 : zMLV 12 68 m_M_mark := ⟨Or.inl (z_mem (zt_8 (List.mem_of_getElem? (i := 63) rfl)) rfl), z_mem (zt_8 (List.mem_of_getElem? (i := 64) rfl)) rfl, z_mem (zt_8 (List.mem_of_getElem? (i := 65) rfl)) rfl, md_M_mark⟩
theorem l_Law_69 : zMLV 12 69 m_T_product := ⟨Or.inl (z_mem (zt_4 (List.mem_of_getElem? (i := 141) rfl)) rfl), z_mem (zt_4 (List.mem_of_getElem? (i := 142) rfl)) rfl, z_mem (zt_4 (List.mem_of_getElem? (i := 143) rfl)) rfl, md_T_product⟩
theorem l_Law_73 : zMLV 12 73 m_M_product := ⟨Or.inl (z_mem (zt_8 (List.mem_of_getElem? (i := 67) rfl)) rfl), z_mem (zt_8 (List.mem_of_getElem? (i := 68) rfl)) rfl, z_mem (zt_8 (List.mem_of_getElem? (i := 69) rfl)) rfl, md_M_product⟩
theorem l_Law_74 : zMLV 12 74 m_T_residue := ⟨Or.inl (z_mem (zt_4 (List.mem_of_getElem? (i := 151) rfl)) rfl), z_mem (zt_4 (List.mem_of_getElem? (i := 152) rfl)) rfl, z_mem (zt_4 (List.mem_of_getElem? (i := 153) rfl)) rfl, md_T_residue⟩
theorem l_Law_77 : zMLV 12 77 m_M_residue := ⟨Or.inl (z_mem (zt_8 (List.mem_of_getElem? (i := 79) rfl)) rfl), z_mem (zt_8 (List.mem_of_getElem? (i := 80) rfl)) rfl, z_mem (zt_8 (List.mem_of_getElem? (i := 81) rfl)) rfl, md_M_residue⟩
theorem l_Law_78 : zMLV 12 78 m_T_block := ⟨Or.inl (z_mem (zt_4 (List.mem_of_getElem? (i := 166) rfl)) rfl), z_mem (zt_4 (List.mem_of_getElem? (i := 167) rfl)) rfl, z_mem (zt_4 (List.mem_of_getElem? (i := 168) rfl)) rfl, md_T_block⟩
theorem l_Law_81 : zMLV 12 81 m_M_block := ⟨Or.inl (z_mem (zt_8 (List.mem_of_getElem? (i := 90) rfl)) rfl), z_mem (zt_8 (List.mem_of_getElem? (i := 91) rfl)) rfl, z_mem (zt_8 (List.mem_of_getElem? (i := 92) rfl)) rfl, md_M_block⟩
theorem l_Law_82 : zMLV 12 82 m_T_keeper := ⟨Or.inl (z_mem (zt_4 (List.mem_of_getElem? (i := 175) rfl)) rfl), z_mem (zt_4 (List.mem_of_getElem? (i := 176) rfl)) rfl, z_mem (zt_4 (List.mem_of_getElem? (i := 177) rfl)) rfl, md_T_keeper⟩
theorem l_Law_85 : zMLV 12 85 m_M_keeper := ⟨Or.inl (z_mem (zt_8 (List.mem_of_getElem? (i := 98) rfl)) rfl), z_mem (zt_8 (List.mem_of_getElem? (i := 99) rfl)) rfl, z_mem (zt_8 (List.mem_of_getElem? (i := 100) rfl)) rfl, md_M_keeper⟩
theorem l_Law_86 : zMLV 12 86 m_T_orbit := ⟨Or.inl (z_mem (zt_4 (List.mem_of_getElem? (i := 183) rfl)) rfl), z_mem (zt_4 (List.mem_of_getElem? (i := 184) rfl)) rfl, z_mem (zt_4 (List.mem_of_getElem? (i := 185) rfl)) rfl, md_T_orbit⟩
theorem l_Law_89 : zMLV 12 89 m_M_orbit := ⟨Or.inl (z_mem (zt_8 (List.mem_of_getElem? (i := 102) rfl)) rfl), z_mem (zt_8 (List.mem_of_getElem? (i := 103) rfl)) rfl, z_mem (zt_8 (List.mem_of_getElem? (i := 104) rfl)) rfl, md_M_orbit⟩
theorem l_Law_90 : zMLV 12 90 m_T_coset := ⟨Or.inl (z_mem (zt_4 (List.mem_of_getElem? (i := 196) rfl)) rfl), z_mem (zt_4 (List.mem_of_getElem? (i := 197) rfl)) rfl, z_mem (zt_4 (List.mem_of_getElem? (i := 198) rfl)) rfl, md_T_coset⟩
theorem l_Law_93 : zMLV 12 93 m_M_coset := ⟨Or.inl (z_mem (zt_8 (List.mem_of_getElem? (i := 106) rfl)) rfl), z_mem (zt_8 (List.mem_of_getElem? (i := 107) rfl)) rfl, z_mem (zt_8 (List.mem_of_getElem? (i := 108) rfl)) rfl, md_M_coset⟩
theorem l_Law_94 : zMLV 12 94 m_T_takes := ⟨Or.inl (z_mem (zt_4 (List.mem_of_getElem? (i := 207) rfl)) rfl), z_mem (zt_4 (List.mem_of_getElem? (i := 208) rfl)) rfl, z_mem (zt_4 (List.mem_of_getElem? (i := 209) rfl)) rfl, md_T_takes⟩
theorem l_Law_97 : zMLV 12 97 m_M_takes := ⟨Or.inl (z_mem (zt_8 (List.mem_of_getElem? (i := 110) rfl)) rfl), z_mem (zt_8 (List.mem_of_getElem? (i := 111) rfl)) rfl, z_mem (zt_8 (List.mem_of_getElem? (i := 112) rfl)) rfl, md_M_takes⟩
theorem l_Law_98 : zMLV 12 98 m_T_moebius := ⟨Or.inl (z_mem (zt_4 (List.mem_of_getElem? (i := 211) rfl)) rfl), z_mem (zt_4 (List.mem_of_getElem? (i := 212) rfl)) rfl, z_mem (zt_4 (List.mem_of_getElem? (i := 213) rfl)) rfl, md_T_moebius⟩
theorem l_Law_101 : zMLV 12 101 m_M_moebius := ⟨Or.inl (z_mem (zt_8 (List.mem_of_getElem? (i := 114) rfl)) rfl), z_mem (zt_8 (List.mem_of_getElem? (i := 115) rfl)) rfl, z_mem (zt_8 (List.mem_of_getElem? (i := 116) rfl)) rfl, md_M_moebius⟩
theorem l_Law_102 : zMLV 12 102 m_T_mixed := ⟨Or.inl (z_mem (zt_4 (List.mem_of_getElem? (i := 220) rfl)) rfl), z_mem (zt_4 (List.mem_of_getElem? (i := 221) rfl)) rfl, z_mem (zt_4 (List.mem_of_getElem? (i := 222) rfl)) rfl, md_T_mixed⟩
theorem l_Law_105 : zMLV 12 105 m_M_mixed := ⟨Or.inl (z_mem (zt_8 (List.mem_of_getElem? (i := 119) rfl)) rfl), z_mem (zt_8 (List.mem_of_getElem? (i := 120) rfl)) rfl, z_mem (zt_8 (List.mem_of_getElem? (i := 121) rfl)) rfl, md_M_mixed⟩
theorem l_Law_106 : zMLV 12 106 m_T_centre := ⟨Or.inl (z_mem (zt_4 (List.mem_of_getElem? (i := 228) rfl)) rfl), z_mem (zt_4 (List.mem_of_getElem? (i := 229) rfl)) rfl, z_mem (zt_4 (List.mem_of_getElem? (i := 230) rfl)) rfl, md_T_centre⟩
theorem l_Law_109 : zMLV 12 109 m_M_centre := ⟨Or.inl (z_mem (zt_8 (List.mem_of_getElem? (i := 123) rfl)) rfl), z_mem (zt_8 (List.mem_of_getElem? (i := 124) rfl)) rfl, z_mem (zt_8 (List.mem_of_getElem? (i := 125) rfl)) rfl, md_M_centre⟩
theorem l_Law_110 : zMLV 12 110 m_T_pairs := ⟨Or.inl (z_mem (zt_4 (List.mem_of_getElem? (i := 233) rfl)) rfl), z_mem (zt_4 (List.mem_of_getElem? (i := 234) rfl)) rfl, z_mem (zt_4 (List.mem_of_getElem? (i := 235) rfl)) rfl, md_T_pairs⟩
theorem l_Law_113 : zMLV 12 113 m_M_pairs := ⟨Or.inl (z_mem (zt_8 (List.mem_of_getElem? (i := 75) rfl)) rfl), z_mem (zt_8 (List.mem_of_getElem? (i := 76) rfl)) rfl, z_mem (zt_8 (List.mem_of_getElem? (i := 77) rfl)) rfl, md_M_pairs⟩
theorem l_Law_114 : zMLV 12 114 m_T_alike := ⟨Or.inl (z_mem (zt_5 (List.mem_of_getElem? (i := 1) rfl)) rfl), z_mem (zt_5 (List.mem_of_getElem? (i := 2) rfl)) rfl, z_mem (zt_5 (List.mem_of_getElem? (i := 3) rfl)) rfl, md_T_alike⟩
theorem l_Law_117 : zMLV 12 117 m_M_alike := ⟨Or.inl (z_mem (zt_8 (List.mem_of_getElem? (i := 15) rfl)) rfl), z_mem (zt_8 (List.mem_of_getElem? (i := 16) rfl)) rfl, z_mem (zt_8 (List.mem_of_getElem? (i := 17) rfl)) rfl, md_M_alike⟩
theorem l_Law_118 : zMLV 12 118 m_T_meet := ⟨Or.inl (z_mem (zt_5 (List.mem_of_getElem? (i := 9) rfl)) rfl), z_mem (zt_5 (List.mem_of_getElem? (i := 10) rfl)) rfl, z_mem (zt_5 (List.mem_of_getElem? (i := 11) rfl)) rfl, md_T_meet⟩
theorem l_Law_121 : zMLV 12 121 m_M_meet := ⟨Or.inl (z_mem (zt_8 (List.mem_of_getElem? (i := 51) rfl)) rfl), z_mem (zt_8 (List.mem_of_getElem? (i := 52) rfl)) rfl, z_mem (zt_8 (List.mem_of_getElem? (i := 53) rfl)) rfl, md_M_meet⟩
theorem l_Law_122 : zMLV 12 122 m_T_join := ⟨Or.inl (z_mem (zt_5 (List.mem_of_getElem? (i := 13) rfl)) rfl), z_mem (zt_5 (List.mem_of_getElem? (i := 14) rfl)) rfl, z_mem (zt_5 (List.mem_of_getElem? (i := 15) rfl)) rfl, md_T_join⟩
theorem l_Law_125 : zMLV 12 125 m_M_join := ⟨Or.inl (z_mem (zt_8 (List.mem_of_getElem? (i := 55) rfl)) rfl), z_mem (zt_8 (List.mem_of_getElem? (i := 56) rfl)) rfl, z_mem (zt_8 (List.mem_of_getElem? (i := 57) rfl)) rfl, md_M_join⟩
theorem l_Law_126 : zMLV 12 126 m_T_orders := ⟨Or.inl (z_mem (zt_5 (List.mem_of_getElem? (i := 17) rfl)) rfl), z_mem (zt_5 (List.mem_of_getElem? (i := 18) rfl)) rfl, z_mem (zt_5 (List.mem_of_getElem? (i := 19) rfl)) rfl, md_T_orders⟩
theorem l_Law_129 : zMLV 12 129 m_M_orders := ⟨Or.inl (z_mem (zt_8 (List.mem_of_getElem? (i := 10) rfl)) rfl), z_mem (zt_8 (List.mem_of_getElem? (i := 11) rfl)) rfl, z_mem (zt_8 (List.mem_of_getElem? (i := 12) rfl)) rfl, md_M_orders⟩
theorem l_Law_130 : zMLV 12 130 m_T_likes := ⟨Or.inl (z_mem (zt_5 (List.mem_of_getElem? (i := 25) rfl)) rfl), z_mem (zt_5 (List.mem_of_getElem? (i := 26) rfl)) rfl, z_mem (zt_5 (List.mem_of_getElem? (i := 27) rfl)) rfl, md_T_likes⟩
theorem l_Law_133 : zMLV 12 133 m_M_likes := ⟨Or.inl (z_mem (zt_8 (List.mem_of_getElem? (i := 127) rfl)) rfl), z_mem (zt_8 (List.mem_of_getElem? (i := 128) rfl)) rfl, z_mem (zt_8 (List.mem_of_getElem? (i := 129) rfl)) rfl, md_M_likes⟩
theorem l_Law_134 : zMLV 12 134 m_T_peak := ⟨Or.inl (z_mem (zt_5 (List.mem_of_getElem? (i := 33) rfl)) rfl), z_mem (zt_5 (List.mem_of_getElem? (i := 34) rfl)) rfl, z_mem (zt_5 (List.mem_of_getElem? (i := 35) rfl)) rfl, md_T_peak⟩
theorem l_Law_137 : zMLV 12 137 m_M_peak := ⟨Or.inl (z_mem (zt_8 (List.mem_of_getElem? (i := 131) rfl)) rfl), z_mem (zt_8 (List.mem_of_getElem? (i := 132) rfl)) rfl, z_mem (zt_8 (List.mem_of_getElem? (i := 133) rfl)) rfl, md_M_peak⟩
theorem l_Law_138 : zMLV 12 138 m_T_local := ⟨Or.inl (z_mem (zt_5 (List.mem_of_getElem? (i := 52) rfl)) rfl), z_mem (zt_5 (List.mem_of_getElem? (i := 53) rfl)) rfl, z_mem (zt_5 (List.mem_of_getElem? (i := 54) rfl)) rfl, md_T_local⟩
theorem l_Law_142 : zMLV 12 142 m_M_local := ⟨Or.inl (z_mem (zt_8 (List.mem_of_getElem? (i := 146) rfl)) rfl), z_mem (zt_8 (List.mem_of_getElem? (i := 147) rfl)) rfl, z_mem (zt_8 (List.mem_of_getElem? (i := 148) rfl)) rfl, md_M_local⟩
theorem l_Law_143 : zMLV 12 143 m_T_units := ⟨Or.inl (z_mem (zt_5 (List.mem_of_getElem? (i := 56) rfl)) rfl), z_mem (zt_5 (List.mem_of_getElem? (i := 57) rfl)) rfl, z_mem (zt_5 (List.mem_of_getElem? (i := 58) rfl)) rfl, md_T_units⟩
theorem l_Law_146 : zMLV 12 146 m_M_units := ⟨Or.inl (z_mem (zt_8 (List.mem_of_getElem? (i := 150) rfl)) rfl), z_mem (zt_8 (List.mem_of_getElem? (i := 151) rfl)) rfl, z_mem (zt_8 (List.mem_of_getElem? (i := 152) rfl)) rfl, md_M_units⟩
theorem l_Law_147 : zMLV 12 147 m_T_unit := ⟨Or.inl (z_mem (zt_5 (List.mem_of_getElem? (i := 92) rfl)) rfl), z_mem (zt_5 (List.mem_of_getElem? (i := 93) rfl)) rfl, z_mem (zt_5 (List.mem_of_getElem? (i := 94) rfl)) rfl, md_T_unit⟩
theorem l_Law_150 : zMLV 12 150 m_M_unit := ⟨Or.inl (z_mem (zt_8 (List.mem_of_getElem? (i := 166) rfl)) rfl), z_mem (zt_8 (List.mem_of_getElem? (i := 167) rfl)) rfl, z_mem (zt_8 (List.mem_of_getElem? (i := 168) rfl)) rfl, md_M_unit⟩
theorem l_Law_151 : zMLV 12 151 m_T_named := ⟨Or.inl (z_mem (zt_5 (List.mem_of_getElem? (i := 105) rfl)) rfl), z_mem (zt_5 (List.mem_of_getElem? (i := 106) rfl)) rfl, z_mem (zt_5 (List.mem_of_getElem? (i := 107) rfl)) rfl, md_T_named⟩
theorem l_Law_155 : zMLV 12 155 m_M_named := ⟨Or.inl (z_mem (zt_8 (List.mem_of_getElem? (i := 175) rfl)) rfl), z_mem (zt_8 (List.mem_of_getElem? (i := 176) rfl)) rfl, z_mem (zt_8 (List.mem_of_getElem? (i := 177) rfl)) rfl, md_M_named⟩
theorem l_Law_156 : zMLV 12 156 m_T_has := ⟨Or.inl (z_mem (zt_5 (List.mem_of_getElem? (i := 114) rfl)) rfl), z_mem (zt_5 (List.mem_of_getElem? (i := 115) rfl)) rfl, z_mem (zt_5 (List.mem_of_getElem? (i := 116) rfl)) rfl, md_T_has⟩
theorem l_Law_160 : zMLV 12 160 m_M_has := ⟨Or.inl (z_mem (zt_8 (List.mem_of_getElem? (i := 180) rfl)) rfl), z_mem (zt_8 (List.mem_of_getElem? (i := 181) rfl)) rfl, z_mem (zt_8 (List.mem_of_getElem? (i := 182) rfl)) rfl, md_M_has⟩
theorem l_Law_161 : zMLV 12 161 m_T_marked := ⟨Or.inl (z_mem (zt_5 (List.mem_of_getElem? (i := 118) rfl)) rfl), z_mem (zt_5 (List.mem_of_getElem? (i := 119) rfl)) rfl, z_mem (zt_5 (List.mem_of_getElem? (i := 120) rfl)) rfl, md_T_marked⟩
theorem l_Law_164 : zMLV 12 164 m_M_marked := ⟨Or.inl (z_mem (zt_8 (List.mem_of_getElem? (i := 184) rfl)) rfl), z_mem (zt_8 (List.mem_of_getElem? (i := 185) rfl)) rfl, z_mem (zt_8 (List.mem_of_getElem? (i := 186) rfl)) rfl, md_M_marked⟩
theorem l_Law_165 : zMLV 12 165 m_T_character := ⟨Or.inl (z_mem (zt_5 (List.mem_of_getElem? (i := 123) rfl)) rfl), z_mem (zt_5 (List.mem_of_getElem? (i := 124) rfl)) rfl, z_mem (zt_5 (List.mem_of_getElem? (i := 125) rfl)) rfl, md_T_character⟩
theorem l_Law_168 : zMLV 12 168 m_M_character := ⟨Or.inl (z_mem (zt_8 (List.mem_of_getElem? (i := 188) rfl)) rfl), z_mem (zt_8 (List.mem_of_getElem? (i := 189) rfl)) rfl, z_mem (zt_8 (List.mem_of_getElem? (i := 190) rfl)) rfl, md_M_character⟩
theorem l_Law_169 : zMLV 12 169 m_T_parts := ⟨Or.inl (z_mem (zt_5 (List.mem_of_getElem? (i := 127) rfl)) rfl), z_mem (zt_5 (List.mem_of_getElem? (i := 128) rfl)) rfl, z_mem (zt_5 (List.mem_of_getElem? (i := 129) rfl)) rfl, md_T_parts⟩
theorem l_Law_172 : zMLV 12 172 m_M_parts := ⟨Or.inl (z_mem (zt_8 (List.mem_of_getElem? (i := 192) rfl)) rfl), z_mem (zt_8 (List.mem_of_getElem? (i := 193) rfl)) rfl, z_mem (zt_8 (List.mem_of_getElem? (i := 194) rfl)) rfl, md_M_parts⟩
theorem l_Law_173 : zMLV 12 173 m_T_congruence := ⟨Or.inl (z_mem (zt_5 (List.mem_of_getElem? (i := 135) rfl)) rfl), z_mem (zt_5 (List.mem_of_getElem? (i := 136) rfl)) rfl, z_mem (zt_5 (List.mem_of_getElem? (i := 137) rfl)) rfl, md_T_congruence⟩
theorem l_Law_176 : zMLV 12 176 m_M_congruence := ⟨Or.inl (z_mem (zt_8 (List.mem_of_getElem? (i := 196) rfl)) rfl), z_mem (zt_8 (List.mem_of_getElem? (i := 197) rfl)) rfl, z_mem (zt_8 (List.mem_of_getElem? (i := 198) rfl)) rfl, md_M_congruence⟩
theorem l_Law_177 : zMLV 12 177 m_T_is := ⟨Or.inl (z_mem (zt_5 (List.mem_of_getElem? (i := 153) rfl)) rfl), z_mem (zt_5 (List.mem_of_getElem? (i := 154) rfl)) rfl, z_mem (zt_5 (List.mem_of_getElem? (i := 155) rfl)) rfl, md_T_is⟩
theorem l_Law_180 : zMLV 12 180 m_M_is := ⟨Or.inl (z_mem (zt_8 (List.mem_of_getElem? (i := 208) rfl)) rfl), z_mem (zt_8 (List.mem_of_getElem? (i := 209) rfl)) rfl, z_mem (zt_8 (List.mem_of_getElem? (i := 210) rfl)) rfl, md_M_is⟩
theorem l_Law_181 : zMLV 12 181 m_T_makes := ⟨Or.inl (z_mem (zt_5 (List.mem_of_getElem? (i := 169) rfl)) rfl), z_mem (zt_5 (List.mem_of_getElem? (i := 170) rfl)) rfl, z_mem (zt_5 (List.mem_of_getElem? (i := 171) rfl)) rfl, md_T_makes⟩
theorem l_Law_184 : zMLV 12 184 m_M_makes := ⟨Or.inl (z_mem (zt_8 (List.mem_of_getElem? (i := 213) rfl)) rfl), z_mem (zt_8 (List.mem_of_getElem? (i := 214) rfl)) rfl, z_mem (zt_8 (List.mem_of_getElem? (i := 215) rfl)) rfl, md_M_makes⟩
theorem l_Law_185 : zMLV 12 185 m_T_take := ⟨Or.inl (z_mem (zt_5 (List.mem_of_getElem? (i := 182) rfl)) rfl), z_mem (zt_5 (List.mem_of_getElem? (i := 183) rfl)) rfl, z_mem (zt_5 (List.mem_of_getElem? (i := 184) rfl)) rfl, md_T_take⟩
theorem l_Law_188 : zMLV 12 188 m_M_take := ⟨Or.inl (z_mem (zt_8 (List.mem_of_getElem? (i := 222) rfl)) rfl), z_mem (zt_8 (List.mem_of_getElem? (i := 223) rfl)) rfl, z_mem (zt_8 (List.mem_of_getElem? (i := 224) rfl)) rfl, md_M_take⟩
theorem l_Law_189 : zMLV 12 189 m_T_marks := ⟨Or.inl (z_mem (zt_5 (List.mem_of_getElem? (i := 204) rfl)) rfl), z_mem (zt_5 (List.mem_of_getElem? (i := 205) rfl)) rfl, z_mem (zt_5 (List.mem_of_getElem? (i := 206) rfl)) rfl, md_T_marks⟩
theorem l_Law_192 : zMLV 12 192 m_M_marks := ⟨Or.inl (z_mem (zt_9 (List.mem_of_getElem? (i := 0) rfl)) rfl), z_mem (zt_9 (List.mem_of_getElem? (i := 1) rfl)) rfl, z_mem (zt_9 (List.mem_of_getElem? (i := 2) rfl)) rfl, md_M_marks⟩
theorem l_Law_193 : zMLV 12 193 m_T_uses := ⟨Or.inl (z_mem (zt_5 (List.mem_of_getElem? (i := 224) rfl)) rfl), z_mem (zt_5 (List.mem_of_getElem? (i := 225) rfl)) rfl, z_mem (zt_5 (List.mem_of_getElem? (i := 226) rfl)) rfl, md_T_uses⟩
theorem l_Law_196 : zMLV 12 196 m_M_uses := ⟨Or.inl (z_mem (zt_9 (List.mem_of_getElem? (i := 18) rfl)) rfl), z_mem (zt_9 (List.mem_of_getElem? (i := 19) rfl)) rfl, z_mem (zt_9 (List.mem_of_getElem? (i := 20) rfl)) rfl, md_M_uses⟩
theorem l_Law_197 : zMLV 12 197 m_T_grows := ⟨Or.inl (z_mem (zt_5 (List.mem_of_getElem? (i := 228) rfl)) rfl), z_mem (zt_5 (List.mem_of_getElem? (i := 229) rfl)) rfl, z_mem (zt_5 (List.mem_of_getElem? (i := 230) rfl)) rfl, md_T_grows⟩
theorem l_Law_201 : zMLV 12 201 m_M_grows := ⟨Or.inl (z_mem (zt_9 (List.mem_of_getElem? (i := 22) rfl)) rfl), z_mem (zt_9 (List.mem_of_getElem? (i := 23) rfl)) rfl, z_mem (zt_9 (List.mem_of_getElem? (i := 24) rfl)) rfl, md_M_grows⟩
theorem l_Law_202 : zMLV 12 202 m_T_undo := ⟨Or.inl (z_mem (zt_5 (List.mem_of_getElem? (i := 237) rfl)) rfl), z_mem (zt_5 (List.mem_of_getElem? (i := 238) rfl)) rfl, z_mem (zt_5 (List.mem_of_getElem? (i := 239) rfl)) rfl, md_T_undo⟩
theorem l_Law_205 : zMLV 12 205 m_M_undo := ⟨Or.inl (z_mem (zt_8 (List.mem_of_getElem? (i := 171) rfl)) rfl), z_mem (zt_8 (List.mem_of_getElem? (i := 172) rfl)) rfl, z_mem (zt_8 (List.mem_of_getElem? (i := 173) rfl)) rfl, md_M_undo⟩
theorem l_String_335 : zMLV 15 335 m_String_coder := ⟨Or.inl (z_mem (zt_3 (List.mem_of_getElem? (i := 38) rfl)) rfl), z_mem (zt_3 (List.mem_of_getElem? (i := 39) rfl)) rfl, z_mem (zt_3 (List.mem_of_getElem? (i := 40) rfl)) rfl, md_String_coder⟩
theorem l_String_492 : zMLV 15 492 m_String_isLatin1 := ⟨Or.inl (z_mem (zt_3 (List.mem_of_getElem? (i := 48) rfl)) rfl), z_mem (zt_3 (List.mem_of_getElem? (i := 49) rfl)) rfl, z_mem (zt_3 (List.mem_of_getElem? (i := 50) rfl)) rfl, md_String_isLatin1⟩
theorem l_String_495 : zMLS 15 495 m_StringLatin1_charAt := ⟨Or.inl (z_mem (zt_3 (List.mem_of_getElem? (i := 52) rfl)) rfl), z_mem (zt_3 (List.mem_of_getElem? (i := 53) rfl)) rfl, md_StringLatin1_charAt⟩
theorem l_String_1059 : zMLS 15 1059 m_Precond_checkIndex := ⟨Or.inl (z_mem (zt_3 (List.mem_of_getElem? (i := 60) rfl)) rfl), z_mem (zt_3 (List.mem_of_getElem? (i := 61) rfl)) rfl, md_Precond_checkIndex⟩
theorem l_StringLatin1_9 : zMLS 16 9 m_String_checkIndex := ⟨Or.inl (z_mem (zt_3 (List.mem_of_getElem? (i := 55) rfl)) rfl), z_mem (zt_3 (List.mem_of_getElem? (i := 56) rfl)) rfl, md_String_checkIndex⟩
theorem x_mmax : Cond.static Lib.Math.max.name ∈ z_tbl ∧ Cond.initialized "java/lang/Math" ∈ z_tbl ∧ Cond.code Lib.Math.max.name Lib.Math.max.code 2 (some .int) ∈ z_tbl := ⟨z_mem (zt_1 (List.mem_of_getElem? (i := 40) rfl)) rfl, z_mem (zt_1 (List.mem_of_getElem? (i := 4) rfl)) rfl, z_mem (zt_1 (List.mem_of_getElem? (i := 41) rfl)) rfl⟩
theorem x_IntRow_7 : Cond.methodLink (zR 2) 7 Lib.Math.max.name ∈ z_tbl := z_mem (zt_1 (List.mem_of_getElem? (i := 39) rfl)) rfl
theorem x_LongRow_7 : Cond.methodLink (zR 8) 7 Lib.Math.max.name ∈ z_tbl := z_mem (zt_1 (List.mem_of_getElem? (i := 195) rfl)) rfl
theorem x_mmin : Cond.static Lib.Math.min.name ∈ z_tbl ∧ Cond.initialized "java/lang/Math" ∈ z_tbl ∧ Cond.code Lib.Math.min.name Lib.Math.min.code 2 (some .int) ∈ z_tbl := ⟨z_mem (zt_4 (List.mem_of_getElem? (i := 205) rfl)) rfl, z_mem (zt_1 (List.mem_of_getElem? (i := 4) rfl)) rfl, z_mem (zt_4 (List.mem_of_getElem? (i := 206) rfl)) rfl⟩
theorem x_Group_88 : Cond.methodLink (zR 5) 88 Lib.Math.min.name ∈ z_tbl := z_mem (zt_4 (List.mem_of_getElem? (i := 204) rfl)) rfl
theorem x_Troupe_96 : Cond.methodLink (zR 4) 96 Lib.Math.min.name ∈ z_tbl := z_mem (zt_5 (List.mem_of_getElem? (i := 181) rfl)) rfl
theorem x_mabs : Cond.static Lib.Math.abs.name ∈ z_tbl ∧ Cond.initialized "java/lang/Math" ∈ z_tbl ∧ Cond.code Lib.Math.abs.name Lib.Math.abs.code 1 (some .int) ∈ z_tbl := ⟨z_mem (zt_5 (List.mem_of_getElem? (i := 47) rfl)) rfl, z_mem (zt_1 (List.mem_of_getElem? (i := 4) rfl)) rfl, z_mem (zt_5 (List.mem_of_getElem? (i := 48) rfl)) rfl⟩
theorem x_T_320 : Cond.methodLink (zR 0) 320 Lib.Math.abs.name ∈ z_tbl := z_mem (zt_5 (List.mem_of_getElem? (i := 46) rfl)) rfl
theorem x_mabsl : Cond.static Lib.MathLoose.abs_long.x ∈ z_tbl ∧ Cond.initialized "java/lang/Math" ∈ z_tbl ∧ Cond.code Lib.MathLoose.abs_long.x Lib.MathLoose.abs_long.code 2 (some .long) ∈ z_tbl := ⟨z_mem (zt_3 (List.mem_of_getElem? (i := 215) rfl)) rfl, z_mem (zt_1 (List.mem_of_getElem? (i := 4) rfl)) rfl, z_mem (zt_3 (List.mem_of_getElem? (i := 216) rfl)) rfl⟩
theorem x_Sums_74 : Cond.methodLink (zR 7) 74 Lib.MathLoose.abs_long.x ∈ z_tbl := z_mem (zt_3 (List.mem_of_getElem? (i := 214) rfl)) rfl
theorem o_T_1 : Cond.methodLink (zR 0) 1 Lib.objectInit ∈ z_tbl := z_mem (zt_1 (List.mem_of_getElem? (i := 24) rfl)) rfl
theorem o_Calc_3 : Cond.methodLink (zR 10) 3 Lib.objectInit ∈ z_tbl := z_mem (zt_2 (List.mem_of_getElem? (i := 2) rfl)) rfl
theorem o_Group_3 : Cond.methodLink (zR 5) 3 Lib.objectInit ∈ z_tbl := z_mem (zt_1 (List.mem_of_getElem? (i := 104) rfl)) rfl
theorem o_IntRow_1 : Cond.methodLink (zR 2) 1 Lib.objectInit ∈ z_tbl := z_mem (zt_1 (List.mem_of_getElem? (i := 38) rfl)) rfl
theorem o_LongRow_1 : Cond.methodLink (zR 8) 1 Lib.objectInit ∈ z_tbl := z_mem (zt_1 (List.mem_of_getElem? (i := 194) rfl)) rfl
theorem o_Reader_3 : Cond.methodLink (zR 3) 3 Lib.objectInit ∈ z_tbl := z_mem (zt_1 (List.mem_of_getElem? (i := 77) rfl)) rfl
theorem o_Sorts_3 : Cond.methodLink (zR 6) 3 Lib.objectInit ∈ z_tbl := z_mem (zt_1 (List.mem_of_getElem? (i := 145) rfl)) rfl
theorem o_Sums_5 : Cond.methodLink (zR 7) 5 Lib.objectInit ∈ z_tbl := z_mem (zt_1 (List.mem_of_getElem? (i := 188) rfl)) rfl
theorem o_Tokens_3 : Cond.methodLink (zR 1) 3 Lib.objectInit ∈ z_tbl := z_mem (zt_1 (List.mem_of_getElem? (i := 32) rfl)) rfl
theorem o_Troupe_3 : Cond.methodLink (zR 4) 3 Lib.objectInit ∈ z_tbl := z_mem (zt_1 (List.mem_of_getElem? (i := 98) rfl)) rfl
theorem o_Units_3 : Cond.methodLink (zR 9) 3 Lib.objectInit ∈ z_tbl := z_mem (zt_1 (List.mem_of_getElem? (i := 218) rfl)) rfl
theorem o_M_1 : Cond.methodLink (zR 11) 1 Lib.objectInit ∈ z_tbl := z_mem (zt_6 (List.mem_of_getElem? (i := 10) rfl)) rfl
theorem o_in : Cond.instanceMethod Lib.objectInit ∈ z_tbl := z_mem (zt_1 (List.mem_of_getElem? (i := 25) rfl)) rfl
theorem o_co : Cond.code Lib.objectInit ⟨#[0xb1]⟩ 1 none ∈ z_tbl := z_mem (zt_1 (List.mem_of_getElem? (i := 26) rfl)) rfl
theorem k_T_204 : Cond.constant (zR 0) 204 (-1000000) ∈ z_tbl := z_mem (zt_4 (List.mem_of_getElem? (i := 219) rfl)) rfl
theorem k_M_102 : Cond.constant (zR 11) 102 (65536) ∈ z_tbl := z_mem (zt_6 (List.mem_of_getElem? (i := 11) rfl)) rfl
theorem k_M_435 : Cond.constant (zR 11) 435 (-1000000) ∈ z_tbl := z_mem (zt_8 (List.mem_of_getElem? (i := 118) rfl)) rfl
theorem k_Integer_265 : Cond.constant (zR 14) 265 (1431655765) ∈ z_tbl := z_mem (zt_2 (List.mem_of_getElem? (i := 148) rfl)) rfl
theorem k_Integer_266 : Cond.constant (zR 14) 266 (858993459) ∈ z_tbl := z_mem (zt_2 (List.mem_of_getElem? (i := 149) rfl)) rfl
theorem k_Integer_267 : Cond.constant (zR 14) 267 (252645135) ∈ z_tbl := z_mem (zt_2 (List.mem_of_getElem? (i := 150) rfl)) rfl
theorem k_T_248 : Cond.constantLong (zR 0) 248 (-9223372036854775808) ∈ z_tbl := z_mem (zt_5 (List.mem_of_getElem? (i := 113) rfl)) rfl
theorem k_Sums_65 : Cond.constantLong (zR 7) 65 (-1) ∈ z_tbl := z_mem (zt_5 (List.mem_of_getElem? (i := 104) rfl)) rfl
theorem k_Sums_80 : Cond.constantLong (zR 7) 80 (1000000000000) ∈ z_tbl := z_mem (zt_3 (List.mem_of_getElem? (i := 217) rfl)) rfl
theorem k_M_175 : Cond.constantLong (zR 11) 175 (123610792682867) ∈ z_tbl := z_mem (zt_7 (List.mem_of_getElem? (i := 84) rfl)) rfl
theorem k_M_177 : Cond.constantLong (zR 11) 177 (1836021349) ∈ z_tbl := z_mem (zt_7 (List.mem_of_getElem? (i := 113) rfl)) rfl
theorem k_M_179 : Cond.constantLong (zR 11) 179 (7103860) ∈ z_tbl := z_mem (zt_7 (List.mem_of_getElem? (i := 118) rfl)) rfl
theorem k_M_181 : Cond.constantLong (zR 11) 181 (1936683636) ∈ z_tbl := z_mem (zt_7 (List.mem_of_getElem? (i := 127) rfl)) rfl
theorem k_M_260 : Cond.constantLong (zR 11) 260 (-1000000000000) ∈ z_tbl := z_mem (zt_7 (List.mem_of_getElem? (i := 156) rfl)) rfl
theorem k_M_262 : Cond.constantLong (zR 11) 262 (1000000000000) ∈ z_tbl := z_mem (zt_7 (List.mem_of_getElem? (i := 157) rfl)) rfl
theorem k_M_406 : Cond.constantLong (zR 11) 406 (24) ∈ z_tbl := z_mem (zt_8 (List.mem_of_getElem? (i := 14) rfl)) rfl
theorem k_M_468 : Cond.constantLong (zR 11) 468 (-1) ∈ z_tbl := z_mem (zt_8 (List.mem_of_getElem? (i := 170) rfl)) rfl
theorem k_M_470 : Cond.constantLong (zR 11) 470 (-9223372036854775808) ∈ z_tbl := z_mem (zt_8 (List.mem_of_getElem? (i := 179) rfl)) rfl
theorem k_M_479 : Cond.constantLong (zR 11) 479 (3) ∈ z_tbl := z_mem (zt_8 (List.mem_of_getElem? (i := 212) rfl)) rfl
theorem k_M_493 : Cond.constantLong (zR 11) 493 (2) ∈ z_tbl := z_mem (zt_8 (List.mem_of_getElem? (i := 226) rfl)) rfl
theorem k_M_495 : Cond.constantLong (zR 11) 495 (6) ∈ z_tbl := z_mem (zt_8 (List.mem_of_getElem? (i := 227) rfl)) rfl
theorem k_M_507 : Cond.constantLong (zR 11) 507 (10) ∈ z_tbl := z_mem (zt_9 (List.mem_of_getElem? (i := 16) rfl)) rfl
theorem k_M_509 : Cond.constantLong (zR 11) 509 (48) ∈ z_tbl := z_mem (zt_9 (List.mem_of_getElem? (i := 17) rfl)) rfl
theorem k_M_523 : Cond.constantLong (zR 11) 523 (-9) ∈ z_tbl := z_mem (zt_9 (List.mem_of_getElem? (i := 26) rfl)) rfl
theorem k_M_525 : Cond.constantLong (zR 11) 525 (9) ∈ z_tbl := z_mem (zt_9 (List.mem_of_getElem? (i := 27) rfl)) rfl
theorem k_M_527 : Cond.constantLong (zR 11) 527 (-999) ∈ z_tbl := z_mem (zt_9 (List.mem_of_getElem? (i := 28) rfl)) rfl
theorem k_M_529 : Cond.constantLong (zR 11) 529 (999) ∈ z_tbl := z_mem (zt_9 (List.mem_of_getElem? (i := 29) rfl)) rfl
theorem n_T_7 : Cond.classLink (zR 0) 7 (zR 1) ∈ z_tbl := z_mem (zt_1 (List.mem_of_getElem? (i := 27) rfl)) rfl
theorem n_T_16 : Cond.classLink (zR 0) 16 (zR 3) ∈ z_tbl := z_mem (zt_1 (List.mem_of_getElem? (i := 72) rfl)) rfl
theorem n_T_25 : Cond.classLink (zR 0) 25 (zR 4) ∈ z_tbl := z_mem (zt_1 (List.mem_of_getElem? (i := 93) rfl)) rfl
theorem n_Calc_9 : Cond.classLink (zR 10) 9 (zR 2) ∈ z_tbl := z_mem (zt_2 (List.mem_of_getElem? (i := 3) rfl)) rfl
theorem n_Group_9 : Cond.classLink (zR 5) 9 (zR 2) ∈ z_tbl := z_mem (zt_1 (List.mem_of_getElem? (i := 105) rfl)) rfl
theorem n_Sorts_9 : Cond.classLink (zR 6) 9 (zR 2) ∈ z_tbl := z_mem (zt_1 (List.mem_of_getElem? (i := 146) rfl)) rfl
theorem n_Sums_11 : Cond.classLink (zR 7) 11 (zR 8) ∈ z_tbl := z_mem (zt_1 (List.mem_of_getElem? (i := 189) rfl)) rfl
theorem n_Tokens_9 : Cond.classLink (zR 1) 9 (zR 2) ∈ z_tbl := z_mem (zt_1 (List.mem_of_getElem? (i := 33) rfl)) rfl
theorem n_Troupe_9 : Cond.classLink (zR 4) 9 (zR 5) ∈ z_tbl := z_mem (zt_1 (List.mem_of_getElem? (i := 99) rfl)) rfl
theorem n_Troupe_18 : Cond.classLink (zR 4) 18 (zR 6) ∈ z_tbl := z_mem (zt_1 (List.mem_of_getElem? (i := 140) rfl)) rfl
theorem n_Troupe_27 : Cond.classLink (zR 4) 27 (zR 7) ∈ z_tbl := z_mem (zt_1 (List.mem_of_getElem? (i := 183) rfl)) rfl
theorem n_Troupe_36 : Cond.classLink (zR 4) 36 (zR 9) ∈ z_tbl := z_mem (zt_1 (List.mem_of_getElem? (i := 213) rfl)) rfl
theorem n_Troupe_43 : Cond.classLink (zR 4) 43 (zR 10) ∈ z_tbl := z_mem (zt_1 (List.mem_of_getElem? (i := 237) rfl)) rfl
theorem n_Troupe_52 : Cond.classLink (zR 4) 52 (zR 2) ∈ z_tbl := z_mem (zt_2 (List.mem_of_getElem? (i := 30) rfl)) rfl
theorem n_Units_9 : Cond.classLink (zR 9) 9 (zR 2) ∈ z_tbl := z_mem (zt_1 (List.mem_of_getElem? (i := 219) rfl)) rfl
theorem n_Law_7 : Cond.classLink (zR 12) 7 (zR 0) ∈ z_tbl := z_mem (zt_1 (List.mem_of_getElem? (i := 19) rfl)) rfl
theorem n_Law_10 : Cond.classLink (zR 12) 10 (zR 11) ∈ z_tbl := z_mem (zt_6 (List.mem_of_getElem? (i := 5) rfl)) rfl
theorem g_T_10 : zFO 0 10 0 0 := ⟨by decide, by decide +kernel, z_mem (zt_2 (List.mem_of_getElem? (i := 190) rfl)) rfl⟩
theorem g_T_21 : zFO 0 21 0 1 := ⟨by decide, by decide +kernel, z_mem (zt_2 (List.mem_of_getElem? (i := 191) rfl)) rfl⟩
theorem g_Tokens_14 : zFO 1 14 1 0 := ⟨by decide, by decide +kernel, z_mem (zt_1 (List.mem_of_getElem? (i := 47) rfl)) rfl⟩
theorem g_IntRow_13 : zFO 2 13 2 0 := ⟨by decide, by decide +kernel, z_mem (zt_1 (List.mem_of_getElem? (i := 42) rfl)) rfl⟩
theorem g_Reader_15 : zFO 3 15 3 0 := ⟨by decide, by decide +kernel, z_mem (zt_1 (List.mem_of_getElem? (i := 78) rfl)) rfl⟩
theorem g_Troupe_12 : zFO 4 12 4 0 := ⟨by decide, by decide +kernel, z_mem (zt_2 (List.mem_of_getElem? (i := 32) rfl)) rfl⟩
theorem g_Troupe_23 : zFO 4 23 4 1 := ⟨by decide, by decide +kernel, z_mem (zt_2 (List.mem_of_getElem? (i := 35) rfl)) rfl⟩
theorem g_Troupe_32 : zFO 4 32 4 2 := ⟨by decide, by decide +kernel, z_mem (zt_2 (List.mem_of_getElem? (i := 38) rfl)) rfl⟩
theorem g_Troupe_39 : zFO 4 39 4 3 := ⟨by decide, by decide +kernel, z_mem (zt_2 (List.mem_of_getElem? (i := 40) rfl)) rfl⟩
theorem g_Troupe_48 : zFO 4 48 4 4 := ⟨by decide, by decide +kernel, z_mem (zt_2 (List.mem_of_getElem? (i := 42) rfl)) rfl⟩
theorem g_Troupe_57 : zFO 4 57 4 5 := ⟨by decide, by decide +kernel, z_mem (zt_2 (List.mem_of_getElem? (i := 44) rfl)) rfl⟩
theorem g_Group_14 : zFO 5 14 5 0 := ⟨by decide, by decide +kernel, z_mem (zt_1 (List.mem_of_getElem? (i := 107) rfl)) rfl⟩
theorem g_Group_20 : zFO 5 20 5 1 := ⟨by decide, by decide +kernel, z_mem (zt_1 (List.mem_of_getElem? (i := 108) rfl)) rfl⟩
theorem g_Group_23 : zFO 5 23 5 2 := ⟨by decide, by decide +kernel, z_mem (zt_1 (List.mem_of_getElem? (i := 110) rfl)) rfl⟩
theorem g_Group_26 : zFO 5 26 5 3 := ⟨by decide, by decide +kernel, z_mem (zt_1 (List.mem_of_getElem? (i := 111) rfl)) rfl⟩
theorem g_Group_29 : zFO 5 29 5 4 := ⟨by decide, by decide +kernel, z_mem (zt_1 (List.mem_of_getElem? (i := 112) rfl)) rfl⟩
theorem g_Sorts_14 : zFO 6 14 6 1 := ⟨by decide, by decide +kernel, z_mem (zt_1 (List.mem_of_getElem? (i := 150) rfl)) rfl⟩
theorem g_Sorts_20 : zFO 6 20 6 2 := ⟨by decide, by decide +kernel, z_mem (zt_1 (List.mem_of_getElem? (i := 151) rfl)) rfl⟩
theorem g_Sorts_23 : zFO 6 23 6 3 := ⟨by decide, by decide +kernel, z_mem (zt_1 (List.mem_of_getElem? (i := 152) rfl)) rfl⟩
theorem g_Sorts_26 : zFO 6 26 6 4 := ⟨by decide, by decide +kernel, z_mem (zt_1 (List.mem_of_getElem? (i := 153) rfl)) rfl⟩
theorem g_Sorts_29 : zFO 6 29 6 5 := ⟨by decide, by decide +kernel, z_mem (zt_1 (List.mem_of_getElem? (i := 156) rfl)) rfl⟩
theorem g_Sorts_32 : zFO 6 32 6 0 := ⟨by decide, by decide +kernel, z_mem (zt_1 (List.mem_of_getElem? (i := 148) rfl)) rfl⟩
theorem g_Sums_16 : zFO 7 16 7 1 := ⟨by decide, by decide +kernel, z_mem (zt_1 (List.mem_of_getElem? (i := 203) rfl)) rfl⟩
theorem g_Sums_20 : zFO 7 20 7 2 := ⟨by decide, by decide +kernel, z_mem (zt_1 (List.mem_of_getElem? (i := 204) rfl)) rfl⟩
theorem g_Sums_23 : zFO 7 23 7 0 := ⟨by decide, by decide +kernel, z_mem (zt_1 (List.mem_of_getElem? (i := 201) rfl)) rfl⟩
theorem g_LongRow_13 : zFO 8 13 8 0 := ⟨by decide, by decide +kernel, z_mem (zt_1 (List.mem_of_getElem? (i := 196) rfl)) rfl⟩
theorem g_Units_14 : zFO 9 14 9 1 := ⟨by decide, by decide +kernel, z_mem (zt_1 (List.mem_of_getElem? (i := 222) rfl)) rfl⟩
theorem g_Units_20 : zFO 9 20 9 2 := ⟨by decide, by decide +kernel, z_mem (zt_1 (List.mem_of_getElem? (i := 223) rfl)) rfl⟩
theorem g_Units_23 : zFO 9 23 9 0 := ⟨by decide, by decide +kernel, z_mem (zt_1 (List.mem_of_getElem? (i := 221) rfl)) rfl⟩
theorem g_Calc_14 : zFO 10 14 10 1 := ⟨by decide, by decide +kernel, z_mem (zt_2 (List.mem_of_getElem? (i := 6) rfl)) rfl⟩
theorem g_Calc_20 : zFO 10 20 10 0 := ⟨by decide, by decide +kernel, z_mem (zt_2 (List.mem_of_getElem? (i := 5) rfl)) rfl⟩
theorem g_M_7 : zFO 11 7 11 0 := ⟨by decide, by decide +kernel, z_mem (zt_6 (List.mem_of_getElem? (i := 81) rfl)) rfl⟩
theorem g_M_20 : zFO 11 20 11 15 := ⟨by decide, by decide +kernel, z_mem (zt_6 (List.mem_of_getElem? (i := 96) rfl)) rfl⟩
theorem g_M_23 : zFO 11 23 11 19 := ⟨by decide, by decide +kernel, z_mem (zt_6 (List.mem_of_getElem? (i := 100) rfl)) rfl⟩
theorem g_M_26 : zFO 11 26 11 21 := ⟨by decide, by decide +kernel, z_mem (zt_6 (List.mem_of_getElem? (i := 102) rfl)) rfl⟩
theorem g_M_29 : zFO 11 29 11 22 := ⟨by decide, by decide +kernel, z_mem (zt_6 (List.mem_of_getElem? (i := 103) rfl)) rfl⟩
theorem g_M_32 : zFO 11 32 11 23 := ⟨by decide, by decide +kernel, z_mem (zt_6 (List.mem_of_getElem? (i := 104) rfl)) rfl⟩
theorem g_M_35 : zFO 11 35 11 24 := ⟨by decide, by decide +kernel, z_mem (zt_6 (List.mem_of_getElem? (i := 105) rfl)) rfl⟩
theorem g_M_38 : zFO 11 38 11 27 := ⟨by decide, by decide +kernel, z_mem (zt_6 (List.mem_of_getElem? (i := 108) rfl)) rfl⟩
theorem g_M_41 : zFO 11 41 11 28 := ⟨by decide, by decide +kernel, z_mem (zt_6 (List.mem_of_getElem? (i := 109) rfl)) rfl⟩
theorem g_M_44 : zFO 11 44 11 29 := ⟨by decide, by decide +kernel, z_mem (zt_6 (List.mem_of_getElem? (i := 110) rfl)) rfl⟩
theorem g_M_47 : zFO 11 47 11 30 := ⟨by decide, by decide +kernel, z_mem (zt_6 (List.mem_of_getElem? (i := 111) rfl)) rfl⟩
theorem g_M_50 : zFO 11 50 11 31 := ⟨by decide, by decide +kernel, z_mem (zt_6 (List.mem_of_getElem? (i := 112) rfl)) rfl⟩
theorem g_M_53 : zFO 11 53 11 32 := ⟨by decide, by decide +kernel, z_mem (zt_6 (List.mem_of_getElem? (i := 113) rfl)) rfl⟩
theorem g_M_56 : zFO 11 56 11 33 := ⟨by decide, by decide +kernel, z_mem (zt_6 (List.mem_of_getElem? (i := 114) rfl)) rfl⟩
theorem g_M_60 : zFO 11 60 11 34 := ⟨by decide, by decide +kernel, z_mem (zt_6 (List.mem_of_getElem? (i := 115) rfl)) rfl⟩
theorem g_M_63 : zFO 11 63 11 35 := ⟨by decide, by decide +kernel, z_mem (zt_6 (List.mem_of_getElem? (i := 116) rfl)) rfl⟩
theorem g_M_66 : zFO 11 66 11 36 := ⟨by decide, by decide +kernel, z_mem (zt_6 (List.mem_of_getElem? (i := 117) rfl)) rfl⟩
theorem g_M_69 : zFO 11 69 11 37 := ⟨by decide, by decide +kernel, z_mem (zt_6 (List.mem_of_getElem? (i := 118) rfl)) rfl⟩
theorem g_M_72 : zFO 11 72 11 40 := ⟨by decide, by decide +kernel, z_mem (zt_6 (List.mem_of_getElem? (i := 121) rfl)) rfl⟩
theorem g_M_75 : zFO 11 75 11 44 := ⟨by decide, by decide +kernel, z_mem (zt_6 (List.mem_of_getElem? (i := 125) rfl)) rfl⟩
theorem g_M_78 : zFO 11 78 11 45 := ⟨by decide, by decide +kernel, z_mem (zt_6 (List.mem_of_getElem? (i := 126) rfl)) rfl⟩
theorem g_M_81 : zFO 11 81 11 46 := ⟨by decide, by decide +kernel, z_mem (zt_6 (List.mem_of_getElem? (i := 127) rfl)) rfl⟩
theorem g_M_84 : zFO 11 84 11 47 := ⟨by decide, by decide +kernel, z_mem (zt_6 (List.mem_of_getElem? (i := 128) rfl)) rfl⟩
theorem g_M_87 : zFO 11 87 11 48 := ⟨by decide, by decide +kernel, z_mem (zt_6 (List.mem_of_getElem? (i := 129) rfl)) rfl⟩
theorem g_M_90 : zFO 11 90 11 49 := ⟨by decide, by decide +kernel, z_mem (zt_6 (List.mem_of_getElem? (i := 130) rfl)) rfl⟩
theorem g_M_93 : zFO 11 93 11 50 := ⟨by decide, by decide +kernel, z_mem (zt_6 (List.mem_of_getElem? (i := 131) rfl)) rfl⟩
theorem g_M_96 : zFO 11 96 11 51 := ⟨by decide, by decide +kernel, z_mem (zt_6 (List.mem_of_getElem? (i := 132) rfl)) rfl⟩
theorem g_M_99 : zFO 11 99 11 54 := ⟨by decide, by decide +kernel, z_mem (zt_6 (List.mem_of_getElem? (i := 135) rfl)) rfl⟩
theorem g_M_103 : zFO 11 103 11 56 := ⟨by decide, by decide +kernel, z_mem (zt_6 (List.mem_of_getElem? (i := 137) rfl)) rfl⟩
theorem g_M_106 : zFO 11 106 11 59 := ⟨by decide, by decide +kernel, z_mem (zt_6 (List.mem_of_getElem? (i := 140) rfl)) rfl⟩
theorem g_M_109 : zFO 11 109 11 61 := ⟨by decide, by decide +kernel, z_mem (zt_6 (List.mem_of_getElem? (i := 142) rfl)) rfl⟩
theorem g_M_112 : zFO 11 112 11 62 := ⟨by decide, by decide +kernel, z_mem (zt_6 (List.mem_of_getElem? (i := 143) rfl)) rfl⟩
