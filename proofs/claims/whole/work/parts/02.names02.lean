def wsL_law_r21 : List Cond := [Cond.selects RX7 yX7_asks yX7_asks, Cond.code yX7_asks cX7_asks 4 (some .int), Cond.methodLink RX7 138 yX7_ask, Cond.instanceMethod yX7_ask, Cond.selects RX7 yX7_ask yX7_ask, Cond.code yX7_ask cX7_ask 5 (some .int), Cond.methodLink RX7 129 yX7_isOpen, Cond.instanceMethod yX7_isOpen, Cond.selects RX7 yX7_isOpen yX7_isOpen, Cond.code yX7_isOpen cX7_isOpen 2 (some .boolean), Cond.methodLink RX7 132 yX7_askOnline, Cond.instanceMethod yX7_askOnline, Cond.selects RX7 yX7_askOnline yX7_askOnline, Cond.code yX7_askOnline cX7_askOnline 5 (some .int), Cond.methodLink RX7 123 yX7_let, Cond.instanceMethod yX7_let, Cond.selects RX7 yX7_let yX7_let, Cond.code yX7_let cX7_let 3 none, Cond.methodLink RX7 119 yX7_pass, Cond.instanceMethod yX7_pass, Cond.selects RX7 yX7_pass yX7_pass, Cond.code yX7_pass cX7_pass 4 none, Cond.methodLink RX7 126 yX7_levelOf, Cond.instanceMethod yX7_levelOf]
def wsL_law_r22 : List Cond := [Cond.selects RX7 yX7_levelOf yX7_levelOf, Cond.code yX7_levelOf cX7_levelOf 2 (some .int), Cond.methodLink RX7 115 yX7_isDay, Cond.instanceMethod yX7_isDay, Cond.selects RX7 yX7_isDay yX7_isDay, Cond.code yX7_isDay cX7_isDay 1 (some .boolean), Cond.methodLink RX7 135 yX7_askAlone, Cond.instanceMethod yX7_askAlone, Cond.selects RX7 yX7_askAlone yX7_askAlone, Cond.code yX7_askAlone cX7_askAlone 4 (some .int), Cond.methodLink RL 49 yX6_waits, Cond.instanceMethod yX6_waits, Cond.selects RX6 yX6_waits yX6_waits, Cond.code yX6_waits cX6_waits 3 (some .int), Cond.methodLink RX6 108 yX2_refusesWait, Cond.instanceMethod yX2_refusesWait, Cond.selects RX2 yX2_refusesWait yX2_refusesWait, Cond.code yX2_refusesWait cX2_refusesWait 2 (some .int), Cond.methodLink RX6 111 yX2_letTimeGoBy, Cond.instanceMethod yX2_letTimeGoBy, Cond.selects RX2 yX2_letTimeGoBy yX2_letTimeGoBy, Cond.code yX2_letTimeGoBy cX2_letTimeGoBy 2 (some .int), Cond.methodLink RX2 90 yX1_endAllWaiting, Cond.instanceMethod yX1_endAllWaiting]
def wsL_law_r23 : List Cond := [Cond.selects RX1 yX1_endAllWaiting yX1_endAllWaiting, Cond.code yX1_endAllWaiting cX1_endAllWaiting 2 none, Cond.methodLink RL 52 yX7_waits, Cond.instanceMethod yX7_waits, Cond.selects RX7 yX7_waits yX7_waits, Cond.code yX7_waits cX7_waits 2 (some .int), Cond.methodLink RX7 142 yX7_wait, Cond.instanceMethod yX7_wait, Cond.selects RX7 yX7_wait yX7_wait, Cond.code yX7_wait cX7_wait 3 (some .int), Cond.methodLink RL 53 yX6_of, Cond.instanceMethod yX6_of, Cond.selects RX6 yX6_of yX6_of, Cond.code yX6_of cX6_of 3 (some .int), Cond.methodLink RX6 117 yX2_doorFact, Cond.instanceMethod yX2_doorFact, Cond.selects RX2 yX2_doorFact yX2_doorFact, Cond.code yX2_doorFact cX2_doorFact 3 (some .int), Cond.fieldLink RX2 215 "BadgeDoors$Doors" "waiting" "[I", Cond.methodLink RL 56 yX7_of, Cond.instanceMethod yX7_of, Cond.selects RX7 yX7_of yX7_of, Cond.code yX7_of cX7_of 3 (some .int), Cond.methodLink RX7 145 yX7_aboutDoor]
def wsL_law_r24 : List Cond := [Cond.instanceMethod yX7_aboutDoor, Cond.selects RX7 yX7_aboutDoor yX7_aboutDoor, Cond.code yX7_aboutDoor cX7_aboutDoor 3 (some .int), Cond.methodLink RL 57 yX6_about, Cond.instanceMethod yX6_about, Cond.selects RX6 yX6_about yX6_about, Cond.code yX6_about cX6_about 3 (some .int), Cond.methodLink RX6 120 yX0_fact, Cond.instanceMethod yX0_fact, Cond.selects RX0 yX0_fact yX0_fact, Cond.code yX0_fact cX0_fact 3 (some .int), Cond.methodLink RL 60 yX7_about, Cond.instanceMethod yX7_about, Cond.selects RX7 yX7_about yX7_about, Cond.code yX7_about cX7_about 3 (some .int), Cond.methodLink RL 61 yX6_note, Cond.instanceMethod yX6_note, Cond.selects RX6 yX6_note yX6_note, Cond.code yX6_note cX6_note 4 (some .int), Cond.methodLink RX6 126 yX1_noteFact, Cond.instanceMethod yX1_noteFact, Cond.selects RX1 yX1_noteFact yX1_noteFact, Cond.code yX1_noteFact cX1_noteFact 5 (some .int), Cond.methodLink RL 64 yX7_note]
def wsL_law_r25 : List Cond := [Cond.instanceMethod yX7_note, Cond.selects RX7 yX7_note yX7_note, Cond.code yX7_note cX7_note 4 (some .int), Cond.methodLink RL 65 yX6_inside, Cond.instanceMethod yX6_inside, Cond.selects RX6 yX6_inside yX6_inside, Cond.code yX6_inside cX6_inside 4 (some .int), Cond.methodLink RX6 129 yX6_isArea, Cond.methodLink RX6 132 yX0_bitsIn, Cond.instanceMethod yX0_bitsIn, Cond.selects RX0 yX0_bitsIn yX0_bitsIn, Cond.code yX0_bitsIn cX0_bitsIn 4 (some .int), Cond.methodLink RX6 135 yJ6_bitCount_0f7a4, Cond.static yJ6_bitCount_0f7a4, Cond.initialized RJ6, Cond.code yJ6_bitCount_0f7a4 cJ6_bitCount_0f7a4 1 (some .int), Cond.constant RJ6 265 (1431655765), Cond.constant RJ6 266 (858993459), Cond.constant RJ6 267 (252645135), Cond.methodLink RL 68 yX7_inside, Cond.instanceMethod yX7_inside, Cond.selects RX7 yX7_inside yX7_inside, Cond.code yX7_inside cX7_inside 3 (some .int), Cond.methodLink RX7 148 yX7_insideOf]
def wsL_law_r26 : List Cond := [Cond.instanceMethod yX7_insideOf, Cond.selects RX7 yX7_insideOf yX7_insideOf, Cond.code yX7_insideOf cX7_insideOf 4 (some .int), Cond.methodLink RX7 151 yX7_ones, Cond.static yX7_ones, Cond.code yX7_ones cX7_ones 3 (some .int), Cond.methodLink RL 69 yX6_muster, Cond.instanceMethod yX6_muster, Cond.selects RX6 yX6_muster yX6_muster, Cond.code yX6_muster cX6_muster 2 (some .int), Cond.methodLink RX6 140 yX0_bitsInBut, Cond.instanceMethod yX0_bitsInBut, Cond.selects RX0 yX0_bitsInBut yX0_bitsInBut, Cond.code yX0_bitsInBut cX0_bitsInBut 4 (some .int), Cond.methodLink RL 72 yX7_muster, Cond.instanceMethod yX7_muster, Cond.selects RX7 yX7_muster yX7_muster, Cond.code yX7_muster cX7_muster 4 (some .int), Cond.methodLink RL 73 yX6_way, Cond.instanceMethod yX6_way, Cond.selects RX6 yX6_way yX6_way, Cond.code yX6_way cX6_way 5 (some .int), Cond.methodLink RX6 143 yX3_measure, Cond.instanceMethod yX3_measure]
def wsL_law_r27 : List Cond := [Cond.selects RX3 yX3_measure yX3_measure, Cond.code yX3_measure cX3_measure 5 none, Cond.methodLink RX3 15 yX3_measureStep, Cond.instanceMethod yX3_measureStep, Cond.selects RX3 yX3_measureStep yX3_measureStep, Cond.code yX3_measureStep cX3_measureStep 7 none, Cond.fieldLink RX3 19 "BadgeDoors$House" "doors" "LBadgeDoors$Doors;", Cond.fieldLink RX3 25 "BadgeDoors$Doors" "many" "I", Cond.fieldLink RX3 31 "BadgeDoors$Doors" "from" "[I", Cond.fieldLink RX3 34 "BadgeDoors$Doors" "to" "[I", Cond.methodLink RX3 37 yX2_couldPass, Cond.instanceMethod yX2_couldPass, Cond.selects RX2 yX2_couldPass yX2_couldPass, Cond.code yX2_couldPass cX2_couldPass 3 (some .boolean), Cond.methodLink RX6 147 yX3_length, Cond.instanceMethod yX3_length, Cond.selects RX3 yX3_length yX3_length, Cond.code yX3_length cX3_length 2 (some .int), Cond.methodLink RX6 150 yX3_doorAt, Cond.instanceMethod yX3_doorAt, Cond.selects RX3 yX3_doorAt yX3_doorAt, Cond.code yX3_doorAt cX3_doorAt 7 (some .int), Cond.methodLink RX3 41 yX3_firstDoor, Cond.instanceMethod yX3_firstDoor]
def wsL_law_r28 : List Cond := [Cond.selects RX3 yX3_firstDoor yX3_firstDoor, Cond.code yX3_firstDoor cX3_firstDoor 7 (some .int), Cond.methodLink RL 76 yX7_way, Cond.instanceMethod yX7_way, Cond.selects RX7 yX7_way yX7_way, Cond.code yX7_way cX7_way 5 (some .int), Cond.fieldLink RX7 158 "BadgeDoorsModel" "rowMany" "I", Cond.methodLink RX7 161 yX7_findWay, Cond.instanceMethod yX7_findWay, Cond.selects RX7 yX7_findWay yX7_findWay, Cond.code yX7_findWay cX7_findWay 8 none, Cond.methodLink RX7 154 yX7_couldPass, Cond.instanceMethod yX7_couldPass, Cond.selects RX7 yX7_couldPass yX7_couldPass, Cond.code yX7_couldPass cX7_couldPass 3 (some .boolean), Cond.methodLink RL 77 yX6_passed, Cond.instanceMethod yX6_passed, Cond.selects RX6 yX6_passed yX6_passed, Cond.code yX6_passed cX6_passed 3 (some .int), Cond.fieldLink RX6 154 "BadgeDoors$House" "twos" "LBadgeDoors$Twos;", Cond.methodLink RX6 158 yX5_fact, Cond.instanceMethod yX5_fact, Cond.selects RX5 yX5_fact yX5_fact, Cond.code yX5_fact cX5_fact 4 (some .int)]
def wsL_law_r29 : List Cond := [Cond.methodLink RL 80 yX7_passed, Cond.instanceMethod yX7_passed, Cond.selects RX7 yX7_passed yX7_passed, Cond.code yX7_passed cX7_passed 3 (some .int), Cond.methodLink RL 81 yX6_count, Cond.instanceMethod yX6_count, Cond.selects RX6 yX6_count yX6_count, Cond.code yX6_count cX6_count 2 (some .int), Cond.methodLink RX6 161 yX2_counted, Cond.instanceMethod yX2_counted, Cond.selects RX2 yX2_counted yX2_counted, Cond.code yX2_counted cX2_counted 2 (some .int), Cond.fieldLink RX2 218 "BadgeDoors$Twos" "many" "I", Cond.methodLink RX2 219 yX2_outcomeCount, Cond.instanceMethod yX2_outcomeCount, Cond.selects RX2 yX2_outcomeCount yX2_outcomeCount, Cond.code yX2_outcomeCount cX2_outcomeCount 2 (some .int), Cond.methodLink RL 84 yX7_count, Cond.instanceMethod yX7_count, Cond.selects RX7 yX7_count yX7_count, Cond.code yX7_count cX7_count 2 (some .int), Cond.methodLink RX7 164 yX7_countOf, Cond.instanceMethod yX7_countOf, Cond.selects RX7 yX7_countOf yX7_countOf]
def wsL_law_r30 : List Cond := [Cond.code yX7_countOf cX7_countOf 2 (some .int), Cond.methodLink RL 85 yX6_type, Cond.instanceMethod yX6_type, Cond.selects RX6 yX6_type yX6_type, Cond.code yX6_type cX6_type 2 (some .int), Cond.fieldLink RX6 164 "BadgeDoors$Text" "length" "I", Cond.methodLink RX6 167 yX4_append, Cond.instanceMethod yX4_append, Cond.selects RX4 yX4_append yX4_append, Cond.code yX4_append cX4_append 2 (some .int), Cond.fieldLink RX4 18 "BadgeDoors$Text" "length" "I", Cond.methodLink RL 88 yX7_type, Cond.instanceMethod yX7_type, Cond.selects RX7 yX7_type yX7_type, Cond.code yX7_type cX7_type 2 (some .int), Cond.fieldLink RX7 167 "BadgeDoorsModel" "bytes" "I", Cond.methodLink RL 89 yX6_clear, Cond.instanceMethod yX6_clear, Cond.selects RX6 yX6_clear yX6_clear, Cond.code yX6_clear cX6_clear 1 (some .int), Cond.methodLink RX6 170 yX4_empty, Cond.instanceMethod yX4_empty, Cond.selects RX4 yX4_empty yX4_empty, Cond.code yX4_empty cX4_empty 2 (some .int)]
def wsL_law_r31 : List Cond := [Cond.methodLink RL 93 yX7_clear, Cond.instanceMethod yX7_clear, Cond.selects RX7 yX7_clear yX7_clear, Cond.code yX7_clear cX7_clear 2 (some .int), Cond.methodLink RL 94 yX6_reads, Cond.instanceMethod yX6_reads, Cond.selects RX6 yX6_reads yX6_reads, Cond.code yX6_reads cX6_reads 4 (some .int), Cond.fieldLink RX6 187 "BadgeDoors$Text" "word" "I", Cond.fieldLink RX6 190 "BadgeDoors$Text" "numbers" "[I", Cond.methodLink RX6 174 yX4_findFault, Cond.instanceMethod yX4_findFault, Cond.selects RX4 yX4_findFault yX4_findFault, Cond.code yX4_findFault cX4_findFault 3 (some .int), Cond.fieldLink RX4 32 "BadgeDoors$Text" "at" "I", Cond.methodLink RX4 22 yX4_restart, Cond.instanceMethod yX4_restart, Cond.selects RX4 yX4_restart yX4_restart, Cond.code yX4_restart cX4_restart 1 none, Cond.methodLink RX4 25 yX4_takeOrder, Cond.instanceMethod yX4_takeOrder, Cond.selects RX4 yX4_takeOrder yX4_takeOrder, Cond.code yX4_takeOrder cX4_takeOrder 3 (some .boolean), Cond.fieldLink RX4 44 "BadgeDoors$Text" "word" "I"]
def wsL_law_r32 : List Cond := [Cond.methodLink RX4 38 yX4_takeWord, Cond.instanceMethod yX4_takeWord, Cond.selects RX4 yX4_takeWord yX4_takeWord, Cond.code yX4_takeWord cX4_takeWord 3 (some .boolean), Cond.methodLink RX4 35 yX4_skipBlanks, Cond.instanceMethod yX4_skipBlanks, Cond.selects RX4 yX4_skipBlanks yX4_skipBlanks, Cond.code yX4_skipBlanks cX4_skipBlanks 1 none, Cond.methodLink RX4 54 yX4_lettersOf, Cond.static yX4_lettersOf, Cond.code yX4_lettersOf cX4_lettersOf 1 (some (.object "java/lang/String")), Cond.methodLink RX4 58 yX4_isSpelled, Cond.instanceMethod yX4_isSpelled, Cond.selects RX4 yX4_isSpelled yX4_isSpelled, Cond.code yX4_isSpelled cX4_isSpelled 5 (some .boolean), Cond.methodLink RX4 62 yJ0_length_8abf5, Cond.instanceMethod yJ0_length_8abf5, Cond.selects RJ0 yJ0_length_8abf5 yJ0_length_8abf5, Cond.initialized RJ0, Cond.code yJ0_length_8abf5 cJ0_length_8abf5 1 (some .int), Cond.fieldLink RJ0 9 "java/lang/String" "value" "[B", Cond.methodLink RJ0 335 yJ0_coder_7d493, Cond.instanceMethod yJ0_coder_7d493, Cond.selects RJ0 yJ0_coder_7d493 yJ0_coder_7d493]
def wsL_law_r33 : List Cond := [Cond.code yJ0_coder_7d493 cJ0_coder_7d493 1 (some .byte), Cond.fieldLink RJ0 38 "java/lang/String" "COMPACT_STRINGS" "Z", Cond.fieldLink RJ0 15 "java/lang/String" "coder" "B", Cond.methodLink RX4 67 yJ0_charAt_5068e, Cond.instanceMethod yJ0_charAt_5068e, Cond.selects RJ0 yJ0_charAt_5068e yJ0_charAt_5068e, Cond.code yJ0_charAt_5068e cJ0_charAt_5068e 2 (some .char), Cond.methodLink RJ0 492 yJ0_isLatin1_aae02, Cond.instanceMethod yJ0_isLatin1_aae02, Cond.selects RJ0 yJ0_isLatin1_aae02 yJ0_isLatin1_aae02, Cond.code yJ0_isLatin1_aae02 cJ0_isLatin1_aae02 1 (some .boolean), Cond.methodLink RJ0 495 yJ1_charAt_3b067, Cond.static yJ1_charAt_3b067, Cond.initialized RJ1, Cond.code yJ1_charAt_3b067 cJ1_charAt_3b067 2 (some .char), Cond.methodLink RJ1 9 yJ0_checkIndex_df160, Cond.static yJ0_checkIndex_df160, Cond.code yJ0_checkIndex_df160 cJ0_checkIndex_df160 2 none, Cond.fieldLink RJ0 1053 "jdk/internal/util/Preconditions" "SIOOBE_FORMATTER" "Ljava/util/function/BiFunction;", Cond.methodLink RJ0 1059 yJ3_checkIndex_8e157, Cond.static yJ3_checkIndex_8e157, Cond.initialized RJ3, Cond.code yJ3_checkIndex_8e157 cJ3_checkIndex_8e157 3 (some .int), Cond.methodLink RJ0 498 yJ2_charAt_3b067]
def wsL_law_r34 : List Cond := [Cond.static yJ2_charAt_3b067, Cond.initialized RJ2, Cond.code yJ2_charAt_3b067 cJ2_charAt_3b067 2 (some .char), Cond.methodLink RJ2 67 yJ2_checkIndex_2214a, Cond.static yJ2_checkIndex_2214a, Cond.code yJ2_checkIndex_2214a cJ2_checkIndex_2214a 2 none, Cond.methodLink RJ2 48 yJ2_length_9d52b, Cond.static yJ2_length_9d52b, Cond.code yJ2_length_9d52b cJ2_length_9d52b 1 (some .int), Cond.methodLink RJ2 414 yJ0_checkIndex_df160, Cond.methodLink RJ2 71 yJ2_getChar_3b067, Cond.static yJ2_getChar_3b067, Cond.code yJ2_getChar_3b067 cJ2_getChar_3b067 2 (some .char), Cond.fieldLink RJ2 44 "java/lang/StringUTF16" "$assertionsDisabled" "Z", Cond.fieldLink RJ2 59 "java/lang/StringUTF16" "HI_BYTE_SHIFT" "I", Cond.fieldLink RJ2 63 "java/lang/StringUTF16" "LO_BYTE_SHIFT" "I", Cond.methodLink RX4 47 yX4_takeNumber, Cond.instanceMethod yX4_takeNumber, Cond.selects RX4 yX4_takeNumber yX4_takeNumber, Cond.code yX4_takeNumber cX4_takeNumber 2 (some .boolean), Cond.methodLink RX4 87 yX4_isAtFigure, Cond.instanceMethod yX4_isAtFigure, Cond.selects RX4 yX4_isAtFigure yX4_isAtFigure, Cond.code yX4_isAtFigure cX4_isAtFigure 1 (some .boolean)]
def wsL_law_r35 : List Cond := [Cond.methodLink RX4 90 yX4_takeFigure, Cond.instanceMethod yX4_takeFigure, Cond.selects RX4 yX4_takeFigure yX4_takeFigure, Cond.code yX4_takeFigure cX4_takeFigure 2 (some .int), Cond.methodLink RX4 51 yX4_takeEnd, Cond.instanceMethod yX4_takeEnd, Cond.selects RX4 yX4_takeEnd yX4_takeEnd, Cond.code yX4_takeEnd cX4_takeEnd 1 (some .boolean), Cond.methodLink RX4 29 yX4_hasMore, Cond.instanceMethod yX4_hasMore, Cond.selects RX4 yX4_hasMore yX4_hasMore, Cond.code yX4_hasMore cX4_hasMore 1 (some .boolean), Cond.methodLink RX6 177 yX4_restart, Cond.methodLink RX6 180 yX4_hasMore, Cond.methodLink RX6 184 yX4_takeOrder, Cond.methodLink RX6 194 yX6_doOrder, Cond.instanceMethod yX6_doOrder, Cond.selects RX6 yX6_doOrder yX6_doOrder, Cond.code yX6_doOrder cX6_doOrder 3 (some .boolean), Cond.methodLink RX6 240 yX6_orderBadge, Cond.instanceMethod yX6_orderBadge, Cond.selects RX6 yX6_orderBadge yX6_orderBadge, Cond.code yX6_orderBadge cX6_orderBadge 3 (some .boolean), Cond.methodLink RX6 243 yX6_orderDoor]
def wsL_law_r36 : List Cond := [Cond.instanceMethod yX6_orderDoor, Cond.selects RX6 yX6_orderDoor yX6_orderDoor, Cond.code yX6_orderDoor cX6_orderDoor 6 (some .boolean), Cond.methodLink RX6 247 yX6_orderAsk, Cond.instanceMethod yX6_orderAsk, Cond.selects RX6 yX6_orderAsk yX6_orderAsk, Cond.code yX6_orderAsk cX6_orderAsk 5 (some .boolean), Cond.methodLink RX6 251 yX6_orderWait, Cond.instanceMethod yX6_orderWait, Cond.selects RX6 yX6_orderWait yX6_orderWait, Cond.code yX6_orderWait cX6_orderWait 3 (some .boolean), Cond.methodLink RX6 254 yX6_orderOnline, Cond.instanceMethod yX6_orderOnline, Cond.selects RX6 yX6_orderOnline yX6_orderOnline, Cond.code yX6_orderOnline cX6_orderOnline 4 (some .boolean), Cond.methodLink RX6 257 yX6_orderBar, Cond.instanceMethod yX6_orderBar, Cond.selects RX6 yX6_orderBar yX6_orderBar, Cond.code yX6_orderBar cX6_orderBar 3 (some .boolean), Cond.methodLink RL 97 yX7_reads, Cond.instanceMethod yX7_reads, Cond.selects RX7 yX7_reads yX7_reads, Cond.code yX7_reads cX7_reads 4 (some .int), Cond.fieldLink RX7 185 "BadgeDoorsModel" "orders" "I"]
def wsL_law_r37 : List Cond := [Cond.methodLink RX7 207 yX7_readText, Cond.instanceMethod yX7_readText, Cond.selects RX7 yX7_readText yX7_readText, Cond.code yX7_readText cX7_readText 1 (some .int), Cond.fieldLink RX7 182 "BadgeDoorsModel" "at" "I", Cond.methodLink RX7 188 yX7_next, Cond.instanceMethod yX7_next, Cond.selects RX7 yX7_next yX7_next, Cond.code yX7_next cX7_next 1 (some .int), Cond.methodLink RX7 204 yX7_readOrder, Cond.instanceMethod yX7_readOrder, Cond.selects RX7 yX7_readOrder yX7_readOrder, Cond.code yX7_readOrder cX7_readOrder 4 (some .boolean), Cond.methodLink RX7 195 yX7_wordOf, Cond.instanceMethod yX7_wordOf, Cond.selects RX7 yX7_wordOf yX7_wordOf, Cond.code yX7_wordOf cX7_wordOf 6 (some .int), Cond.methodLink RX7 174 yX7_lettersFrom, Cond.instanceMethod yX7_lettersFrom, Cond.selects RX7 yX7_lettersFrom yX7_lettersFrom, Cond.code yX7_lettersFrom cX7_lettersFrom 6 (some .long), Cond.constantLong RX7 170 (32), Cond.constantLong RX7 172 (97), Cond.methodLink RX7 178 yX7_word]
def wsL_law_r38 : List Cond := [Cond.static yX7_word, Cond.code yX7_word cX7_word 6 (some .long), Cond.methodLink RX7 198 yX7_wantsOf, Cond.static yX7_wantsOf, Cond.code yX7_wantsOf cX7_wantsOf 1 (some .int), Cond.methodLink RX7 201 yX7_readNumber, Cond.instanceMethod yX7_readNumber, Cond.selects RX7 yX7_readNumber yX7_readNumber, Cond.code yX7_readNumber cX7_readNumber 3 (some .boolean), Cond.methodLink RX7 192 yX7_isFigure, Cond.instanceMethod yX7_isFigure, Cond.selects RX7 yX7_isFigure yX7_isFigure, Cond.code yX7_isFigure cX7_isFigure 1 (some .boolean), Cond.methodLink RX7 210 yX7_doOrder, Cond.instanceMethod yX7_doOrder, Cond.selects RX7 yX7_doOrder yX7_doOrder, Cond.code yX7_doOrder cX7_doOrder 4 (some .int), Cond.methodLink RL 98 yX6_back, Cond.instanceMethod yX6_back, Cond.selects RX6 yX6_back yX6_back, Cond.code yX6_back cX6_back 2 (some .int), Cond.methodLink RL 101 yX7_back, Cond.instanceMethod yX7_back, Cond.selects RX7 yX7_back yX7_back]
def wsL_law_r39 : List Cond := [Cond.code yX7_back cX7_back 1 (some .int), Cond.methodLink RL 102 yX6_told, Cond.instanceMethod yX6_told, Cond.selects RX6 yX6_told yX6_told, Cond.code yX6_told cX6_told 2 (some .int), Cond.methodLink RX6 201 yX6_toldOf, Cond.instanceMethod yX6_toldOf, Cond.selects RX6 yX6_toldOf yX6_toldOf, Cond.code yX6_toldOf cX6_toldOf 2 (some .int), Cond.fieldLink RX6 236 "BadgeDoors$Doors" "many" "I", Cond.fieldLink RX6 239 "BadgeDoors$Badges" "many" "I", Cond.methodLink RL 105 yX7_told, Cond.instanceMethod yX7_told, Cond.selects RX7 yX7_told yX7_told, Cond.code yX7_told cX7_told 2 (some .int), Cond.methodLink RX7 213 yX7_toldOf, Cond.instanceMethod yX7_toldOf, Cond.selects RX7 yX7_toldOf yX7_toldOf, Cond.code yX7_toldOf cX7_toldOf 2 (some .int), Cond.methodLink RL 106 yX6_digest, Cond.instanceMethod yX6_digest, Cond.selects RX6 yX6_digest yX6_digest, Cond.code yX6_digest cX6_digest 4 (some .long), Cond.constantLong RX6 204 (2437)]
def wsL_law_r40 : List Cond := [Cond.methodLink RX6 206 yX6_mix, Cond.static yX6_mix, Cond.code yX6_mix cX6_mix 3 (some .long), Cond.constantLong RX6 260 (31), Cond.methodLink RX6 210 yX6_mixDoors, Cond.instanceMethod yX6_mixDoors, Cond.selects RX6 yX6_mixDoors yX6_mixDoors, Cond.code yX6_mixDoors cX6_mixDoors 7 (some .long), Cond.methodLink RX6 214 yX6_mixBadges, Cond.instanceMethod yX6_mixBadges, Cond.selects RX6 yX6_mixBadges yX6_mixBadges, Cond.code yX6_mixBadges cX6_mixBadges 7 (some .long), Cond.methodLink RX6 217 yX6_mixTwos, Cond.instanceMethod yX6_mixTwos, Cond.selects RX6 yX6_mixTwos yX6_mixTwos, Cond.code yX6_mixTwos cX6_mixTwos 7 (some .long), Cond.fieldLink RX6 262 "BadgeDoors$Twos" "many" "I", Cond.methodLink RL 110 yX7_digest, Cond.instanceMethod yX7_digest, Cond.selects RX7 yX7_digest yX7_digest, Cond.code yX7_digest cX7_digest 5 (some .long), Cond.constantLong RX7 216 (2437), Cond.constantLong RX7 218 (31)]
def wsL_law : List Cond := (wsL_law_r1 ++ (wsL_law_r2 ++ (wsL_law_r3 ++ (wsL_law_r4 ++ (wsL_law_r5 ++ (wsL_law_r6 ++ (wsL_law_r7 ++ (wsL_law_r8 ++ (wsL_law_r9 ++ (wsL_law_r10 ++ (wsL_law_r11 ++ (wsL_law_r12 ++ (wsL_law_r13 ++ (wsL_law_r14 ++ (wsL_law_r15 ++ (wsL_law_r16 ++ (wsL_law_r17 ++ (wsL_law_r18 ++ (wsL_law_r19 ++ (wsL_law_r20 ++ (wsL_law_r21 ++ (wsL_law_r22 ++ (wsL_law_r23 ++ (wsL_law_r24 ++ (wsL_law_r25 ++ (wsL_law_r26 ++ (wsL_law_r27 ++ (wsL_law_r28 ++ (wsL_law_r29 ++ (wsL_law_r30 ++ (wsL_law_r31 ++ (wsL_law_r32 ++ (wsL_law_r33 ++ (wsL_law_r34 ++ (wsL_law_r35 ++ (wsL_law_r36 ++ (wsL_law_r37 ++ (wsL_law_r38 ++ (wsL_law_r39 ++ wsL_law_r40))))))))))))))))))))))))))))))))))))))) ++ wsX60 ++ wsX70 ++ wsX20 ++ wsX40 ++ wsX30 ++ wsX10 ++ wsX00 ++ wsX50 ++ ([] : List Cond)
theorem lwi_mem {big : List Cond} (ws : List Cond) (ps : List Nat) (hp : ws = ps.filterMap (fun i => big[i]?)) : ∀ w ∈ ws, w ∈ big := by
  intro w hw
  rw [hp] at hw
  obtain ⟨i, -, hi⟩ := List.mem_filterMap.mp hw
  exact List.mem_of_getElem? hi
set_option maxRecDepth 20000 in
theorem lwi_r1 : ∀ w ∈ wsL_law_r1, w ∈ lw_tbl := lwi_mem _ [92, 93, 77, 867, 868, 84, 94, 95, 96, 97, 98, 99, 100, 101, 78, 305, 306, 270, 271, 82, 308, 295, 296, 83] (by decide +kernel)
set_option maxRecDepth 20000 in
theorem lwi_r2 : ∀ w ∈ wsL_law_r2, w ∈ lw_tbl := lwi_mem _ [309, 102, 103, 104, 105, 106, 107, 79, 240, 183, 184, 80, 243, 222, 223, 81, 245, 182, 247, 108, 109, 110, 111, 116] (by decide +kernel)
set_option maxRecDepth 20000 in
theorem lwi_r3 : ∀ w ∈ wsL_law_r3, w ∈ lw_tbl := lwi_mem _ [119, 122, 124, 126, 128, 130, 132, 134, 136, 138, 140, 142, 144, 145, 146, 185, 186, 187, 188, 193, 196, 199, 201, 203] (by decide +kernel)
set_option maxRecDepth 20000 in
theorem lwi_r4 : ∀ w ∈ wsL_law_r4, w ∈ lw_tbl := lwi_mem _ [205, 224, 225, 226, 227, 231, 232, 272, 273, 274, 275, 280, 282, 297, 298, 299, 300, 301, 869, 870, 871, 872, 873, 874] (by decide +kernel)
set_option maxRecDepth 20000 in
theorem lwi_r5 : ∀ w ∈ wsL_law_r5, w ∈ lw_tbl := lwi_mem _ [875, 877, 878, 880, 881, 882, 884, 885, 330, 331, 332, 333, 241, 334, 335, 336, 337, 113, 339, 340, 341, 342, 343, 345] (by decide +kernel)
set_option maxRecDepth 20000 in
theorem lwi_r6 : ∀ w ∈ wsL_law_r6, w ∈ lw_tbl := lwi_mem _ [346, 347, 349, 0, 350, 310, 311, 312, 351, 353, 1, 354, 307, 355, 357, 2, 358, 359, 360, 361, 362, 248, 249, 250] (by decide +kernel)
set_option maxRecDepth 20000 in
theorem lwi_r7 : ∀ w ∈ wsL_law_r7, w ∈ lw_tbl := lwi_mem _ [251, 363, 364, 365, 366, 112, 368, 369, 370, 372, 371, 85, 373, 374, 375, 376, 189, 378, 379, 380, 381, 228, 384, 385] (by decide +kernel)
set_option maxRecDepth 20000 in
theorem lwi_r8 : ∀ w ∈ wsL_law_r8, w ∈ lw_tbl := lwi_mem _ [386, 387, 919, 920, 921, 922, 923, 925, 37, 926, 927, 928, 929, 930, 932, 38, 933, 934, 935, 936, 937, 938, 939, 940] (by decide +kernel)
set_option maxRecDepth 20000 in
theorem lwi_r9 : ∀ w ∈ wsL_law_r9, w ∈ lw_tbl := lwi_mem _ [941, 942, 943, 945, 39, 946, 876, 947, 948, 949, 950, 952, 40, 953, 388, 389, 390, 391, 392, 393, 394, 395, 397, 398] (by decide +kernel)
set_option maxRecDepth 20000 in
theorem lwi_r10 : ∀ w ∈ wsL_law_r10, w ∈ lw_tbl := lwi_mem _ [399, 400, 401, 402, 403, 404, 405, 406, 954, 955, 956, 957, 958, 960, 41, 961, 962, 964, 42, 965, 407, 408, 409, 410] (by decide +kernel)
set_option maxRecDepth 20000 in
theorem lwi_r11 : ∀ w ∈ wsL_law_r11, w ∈ lw_tbl := lwi_mem _ [411, 412, 413, 414, 415, 417, 3, 418, 966, 967, 968, 969, 970, 972, 43, 973, 974, 976, 44, 977, 419, 420, 421, 422] (by decide +kernel)
set_option maxRecDepth 20000 in
theorem lwi_r12 : ∀ w ∈ wsL_law_r12, w ∈ lw_tbl := lwi_mem _ [244, 423, 424, 425, 426, 190, 427, 428, 429, 430, 978, 979, 980, 981, 982, 984, 45, 985, 431, 432, 433, 434, 435, 436] (by decide +kernel)
set_option maxRecDepth 20000 in
theorem lwi_r13 : ∀ w ∈ wsL_law_r13, w ∈ lw_tbl := lwi_mem _ [437, 438, 439, 440, 441, 442, 443, 986, 987, 988, 989, 990, 992, 46, 993, 444, 445, 446, 447, 448, 449, 450, 451, 452] (by decide +kernel)
set_option maxRecDepth 20000 in
theorem lwi_r14 : ∀ w ∈ wsL_law_r14, w ∈ lw_tbl := lwi_mem _ [454, 455, 456, 457, 994, 995, 996, 997, 998, 1000, 47, 1001, 458, 459, 460, 461, 462, 463, 464, 465, 133, 466, 467, 468] (by decide +kernel)
set_option maxRecDepth 20000 in
theorem lwi_r15 : ∀ w ∈ wsL_law_r15, w ∈ lw_tbl := lwi_mem _ [469, 470, 471, 473, 4, 474, 139, 475, 476, 86, 477, 143, 141, 478, 480, 5, 481, 202, 482, 484, 6, 485, 127, 200] (by decide +kernel)
set_option maxRecDepth 20000 in
theorem lwi_r16 : ∀ w ∈ wsL_law_r16, w ∈ lw_tbl := lwi_mem _ [118, 121, 486, 487, 488, 489, 191, 197, 194, 1002, 1003, 1004, 1005, 1006, 1008, 48, 1009, 1010, 1012, 49, 1013, 1014, 1016, 50] (by decide +kernel)
set_option maxRecDepth 20000 in
theorem lwi_r17 : ∀ w ∈ wsL_law_r17, w ∈ lw_tbl := lwi_mem _ [1017, 1018, 1020, 51, 1021, 1022, 1024, 52, 1025, 490, 491, 492, 493, 494, 495, 496, 497, 498, 499, 500, 501, 502, 504, 7] (by decide +kernel)
set_option maxRecDepth 20000 in
theorem lwi_r18 : ∀ w ∈ wsL_law_r18, w ∈ lw_tbl := lwi_mem _ [505, 198, 195, 129, 506, 508, 8, 509, 131, 510, 512, 9, 513, 135, 514, 516, 10, 517, 123, 125, 518, 520, 11, 521] (by decide +kernel)
set_option maxRecDepth 20000 in
theorem lwi_r19 : ∀ w ∈ wsL_law_r19, w ∈ lw_tbl := lwi_mem _ [522, 523, 524, 525, 526, 528, 12, 529, 530, 531, 532, 533, 534, 535, 536, 537, 538, 539, 540, 541, 542, 544, 13, 545] (by decide +kernel)
set_option maxRecDepth 20000 in
theorem lwi_r20 : ∀ w ∈ wsL_law_r20, w ∈ lw_tbl := lwi_mem _ [204, 546, 547, 548, 549, 550, 552, 14, 553, 206, 554, 555, 556, 557, 558, 560, 15, 561, 562, 563, 564, 565, 1026, 1027] (by decide +kernel)
set_option maxRecDepth 20000 in
theorem lwi_r21 : ∀ w ∈ wsL_law_r21, w ∈ lw_tbl := lwi_mem _ [1028, 1029, 1030, 1032, 53, 1033, 1034, 1036, 54, 1037, 1038, 1040, 55, 1041, 1042, 1044, 56, 1045, 1046, 1048, 57, 1049, 1050, 1052] (by decide +kernel)
set_option maxRecDepth 20000 in
theorem lwi_r22 : ∀ w ∈ wsL_law_r22, w ∈ lw_tbl := lwi_mem _ [58, 1053, 1054, 1056, 59, 1057, 1058, 1060, 60, 1061, 566, 567, 568, 569, 570, 571, 572, 573, 574, 575, 576, 577, 578, 579] (by decide +kernel)
set_option maxRecDepth 20000 in
theorem lwi_r23 : ∀ w ∈ wsL_law_r23, w ∈ lw_tbl := lwi_mem _ [580, 581, 1062, 1063, 1064, 1065, 1066, 1068, 61, 1069, 582, 583, 584, 585, 586, 587, 588, 589, 137, 1070, 1071, 1072, 1073, 1074] (by decide +kernel)
set_option maxRecDepth 20000 in
theorem lwi_r24 : ∀ w ∈ wsL_law_r24, w ∈ lw_tbl := lwi_mem _ [1076, 62, 1077, 590, 591, 592, 593, 594, 595, 596, 597, 1078, 1079, 1080, 1081, 598, 599, 600, 601, 602, 603, 604, 605, 1082] (by decide +kernel)
set_option maxRecDepth 20000 in
theorem lwi_r25 : ∀ w ∈ wsL_law_r25, w ∈ lw_tbl := lwi_mem _ [1083, 1084, 1085, 606, 607, 608, 609, 610, 611, 612, 613, 614, 615, 616, 87, 617, 618, 619, 620, 1086, 1087, 1088, 1089, 1090] (by decide +kernel)
set_option maxRecDepth 20000 in
theorem lwi_r26 : ∀ w ∈ wsL_law_r26, w ∈ lw_tbl := lwi_mem _ [1092, 63, 1093, 1094, 1095, 1096, 621, 622, 623, 624, 625, 626, 627, 628, 1097, 1098, 1099, 1100, 629, 630, 631, 632, 633, 634] (by decide +kernel)
set_option maxRecDepth 20000 in
theorem lwi_r27 : ∀ w ∈ wsL_law_r27, w ∈ lw_tbl := lwi_mem _ [635, 636, 637, 639, 16, 640, 242, 114, 117, 120, 641, 642, 643, 644, 645, 646, 647, 648, 649, 650, 651, 652, 653, 655] (by decide +kernel)
set_option maxRecDepth 20000 in
theorem lwi_r28 : ∀ w ∈ wsL_law_r28, w ∈ lw_tbl := lwi_mem _ [17, 656, 1101, 1102, 1103, 1104, 886, 1105, 1107, 64, 1108, 1109, 1111, 65, 1112, 657, 658, 659, 660, 246, 661, 662, 663, 664] (by decide +kernel)
set_option maxRecDepth 20000 in
theorem lwi_r29 : ∀ w ∈ wsL_law_r29, w ∈ lw_tbl := lwi_mem _ [1113, 1114, 1115, 1116, 665, 666, 667, 668, 669, 670, 671, 672, 229, 673, 675, 18, 676, 1117, 1118, 1119, 1120, 1121, 1123, 66] (by decide +kernel)
set_option maxRecDepth 20000 in
theorem lwi_r30 : ∀ w ∈ wsL_law_r30, w ∈ lw_tbl := lwi_mem _ [1124, 677, 678, 679, 680, 277, 681, 682, 683, 684, 276, 1125, 1126, 1127, 1128, 879, 685, 686, 687, 688, 689, 690, 691, 692] (by decide +kernel)
set_option maxRecDepth 20000 in
theorem lwi_r31 : ∀ w ∈ wsL_law_r31, w ∈ lw_tbl := lwi_mem _ [1129, 1130, 1131, 1132, 693, 694, 695, 696, 279, 281, 697, 698, 699, 700, 283, 701, 702, 703, 704, 705, 706, 707, 708, 278] (by decide +kernel)
set_option maxRecDepth 20000 in
theorem lwi_r32 : ∀ w ∈ wsL_law_r32, w ∈ lw_tbl := lwi_mem _ [709, 711, 19, 712, 713, 715, 20, 716, 717, 718, 719, 728, 730, 21, 731, 732, 733, 734, 88, 735, 1195, 736, 737, 738] (by decide +kernel)
set_option maxRecDepth 20000 in
theorem lwi_r33 : ∀ w ∈ wsL_law_r33, w ∈ lw_tbl := lwi_mem _ [739, 740, 1196, 742, 743, 744, 745, 746, 747, 748, 749, 750, 751, 89, 752, 753, 754, 755, 756, 758, 759, 90, 760, 761] (by decide +kernel)
set_option maxRecDepth 20000 in
theorem lwi_r34 : ∀ w ∈ wsL_law_r34, w ∈ lw_tbl := lwi_mem _ [762, 91, 763, 764, 765, 766, 767, 768, 769, 770, 771, 772, 773, 774, 776, 778, 782, 784, 22, 785, 786, 788, 23, 789] (by decide +kernel)
set_option maxRecDepth 20000 in
theorem lwi_r35 : ∀ w ∈ wsL_law_r35, w ∈ lw_tbl := lwi_mem _ [790, 792, 24, 793, 794, 796, 25, 797, 798, 799, 800, 801, 802, 803, 804, 805, 807, 26, 808, 809, 811, 27, 812, 813] (by decide +kernel)
set_option maxRecDepth 20000 in
theorem lwi_r36 : ∀ w ∈ wsL_law_r36, w ∈ lw_tbl := lwi_mem _ [815, 28, 816, 817, 819, 29, 820, 821, 823, 30, 824, 825, 827, 31, 828, 829, 831, 32, 832, 1133, 1134, 1135, 1136, 883] (by decide +kernel)
set_option maxRecDepth 20000 in
theorem lwi_r37 : ∀ w ∈ wsL_law_r37, w ∈ lw_tbl := lwi_mem _ [1137, 1139, 67, 1140, 887, 1141, 1143, 68, 1144, 1145, 1147, 69, 1148, 1149, 1151, 70, 1152, 1153, 1155, 71, 1156, 1157, 1158, 1159] (by decide +kernel)
set_option maxRecDepth 20000 in
theorem lwi_r38 : ∀ w ∈ wsL_law_r38, w ∈ lw_tbl := lwi_mem _ [1160, 1161, 1162, 1163, 1164, 1165, 1167, 72, 1168, 1169, 1171, 73, 1172, 1173, 1175, 74, 1176, 834, 835, 836, 837, 1177, 1178, 1179] (by decide +kernel)
set_option maxRecDepth 20000 in
theorem lwi_r39 : ∀ w ∈ wsL_law_r39, w ∈ lw_tbl := lwi_mem _ [1180, 838, 839, 840, 841, 842, 844, 33, 845, 115, 192, 1181, 1182, 1183, 1184, 1185, 1187, 75, 1188, 846, 847, 848, 849, 850] (by decide +kernel)
set_option maxRecDepth 20000 in
theorem lwi_r40 : ∀ w ∈ wsL_law_r40, w ∈ lw_tbl := lwi_mem _ [851, 852, 853, 854, 855, 857, 34, 858, 859, 861, 35, 862, 863, 865, 36, 866, 230, 1189, 1190, 1191, 1192, 1193, 1194] (by decide +kernel)
set_option maxRecDepth 20000 in
theorem lwi_x6 : ∀ w ∈ wsX60, w ∈ lw_tbl := lwi_mem _ [313, 315, 317, 319, 321, 323, 325, 327] (by decide +kernel)
set_option maxRecDepth 20000 in
theorem lwi_x7 : ∀ w ∈ wsX70, w ∈ lw_tbl := lwi_mem _ [888, 890, 892, 894, 896, 898, 900, 902, 904, 906, 908, 910, 912, 914, 916] (by decide +kernel)
set_option maxRecDepth 20000 in
theorem lwi_x2 : ∀ w ∈ wsX20, w ∈ lw_tbl := lwi_mem _ [252, 254, 256, 258, 260, 262, 264, 266] (by decide +kernel)
set_option maxRecDepth 20000 in
theorem lwi_x4 : ∀ w ∈ wsX40, w ∈ lw_tbl := lwi_mem _ [284, 286, 288, 290, 292] (by decide +kernel)
set_option maxRecDepth 20000 in
theorem lwi_x3 : ∀ w ∈ wsX30, w ∈ lw_tbl := lwi_mem _ [302] (by decide +kernel)
set_option maxRecDepth 20000 in
theorem lwi_x1 : ∀ w ∈ wsX10, w ∈ lw_tbl := lwi_mem _ [147, 149, 151, 153, 155, 157, 159, 161, 163, 165, 167, 169, 171, 173, 175, 177, 179] (by decide +kernel)
set_option maxRecDepth 20000 in
theorem lwi_x0 : ∀ w ∈ wsX00, w ∈ lw_tbl := lwi_mem _ [207, 209, 211, 213, 215, 217, 219] (by decide +kernel)
set_option maxRecDepth 20000 in
theorem lwi_x5 : ∀ w ∈ wsX50, w ∈ lw_tbl := lwi_mem _ [233, 235, 237] (by decide +kernel)
theorem wsL_law_in : ∀ w ∈ wsL_law, w ∈ lw_tbl := List.forall_mem_append.mpr ⟨List.forall_mem_append.mpr ⟨List.forall_mem_append.mpr ⟨List.forall_mem_append.mpr ⟨List.forall_mem_append.mpr ⟨List.forall_mem_append.mpr ⟨List.forall_mem_append.mpr ⟨List.forall_mem_append.mpr ⟨List.forall_mem_append.mpr ⟨List.forall_mem_append.mpr ⟨lwi_r1, List.forall_mem_append.mpr ⟨lwi_r2, List.forall_mem_append.mpr ⟨lwi_r3, List.forall_mem_append.mpr ⟨lwi_r4, List.forall_mem_append.mpr ⟨lwi_r5, List.forall_mem_append.mpr ⟨lwi_r6, List.forall_mem_append.mpr ⟨lwi_r7, List.forall_mem_append.mpr ⟨lwi_r8, List.forall_mem_append.mpr ⟨lwi_r9, List.forall_mem_append.mpr ⟨lwi_r10, List.forall_mem_append.mpr ⟨lwi_r11, List.forall_mem_append.mpr ⟨lwi_r12, List.forall_mem_append.mpr ⟨lwi_r13, List.forall_mem_append.mpr ⟨lwi_r14, List.forall_mem_append.mpr ⟨lwi_r15, List.forall_mem_append.mpr ⟨lwi_r16, List.forall_mem_append.mpr ⟨lwi_r17, List.forall_mem_append.mpr ⟨lwi_r18, List.forall_mem_append.mpr ⟨lwi_r19, List.forall_mem_append.mpr ⟨lwi_r20, List.forall_mem_append.mpr ⟨lwi_r21, List.forall_mem_append.mpr ⟨lwi_r22, List.forall_mem_append.mpr ⟨lwi_r23, List.forall_mem_append.mpr ⟨lwi_r24, List.forall_mem_append.mpr ⟨lwi_r25, List.forall_mem_append.mpr ⟨lwi_r26, List.forall_mem_append.mpr ⟨lwi_r27, List.forall_mem_append.mpr ⟨lwi_r28, List.forall_mem_append.mpr ⟨lwi_r29, List.forall_mem_append.mpr ⟨lwi_r30, List.forall_mem_append.mpr ⟨lwi_r31, List.forall_mem_append.mpr ⟨lwi_r32, List.forall_mem_append.mpr ⟨lwi_r33, List.forall_mem_append.mpr ⟨lwi_r34, List.forall_mem_append.mpr ⟨lwi_r35, List.forall_mem_append.mpr ⟨lwi_r36, List.forall_mem_append.mpr ⟨lwi_r37, List.forall_mem_append.mpr ⟨lwi_r38, List.forall_mem_append.mpr ⟨lwi_r39, lwi_r40⟩⟩⟩⟩⟩⟩⟩⟩⟩⟩⟩⟩⟩⟩⟩⟩⟩⟩⟩⟩⟩⟩⟩⟩⟩⟩⟩⟩⟩⟩⟩⟩⟩⟩⟩⟩⟩⟩⟩, lwi_x6⟩, lwi_x7⟩, lwi_x2⟩, lwi_x4⟩, lwi_x3⟩, lwi_x1⟩, lwi_x0⟩, lwi_x5⟩, fun _ h => absurd h List.not_mem_nil⟩
theorem inlX0 : ∀ w ∈ wsX00, w ∈ wsL_law := fun _ h => List.mem_append_left _ (List.mem_append_left _ (List.mem_append_right _ h))
theorem inX0 : ∀ w ∈ wsX00, w ∈ lw_tbl := fun w h => wsL_law_in w (inlX0 w h)
theorem inlX1 : ∀ w ∈ wsX10, w ∈ wsL_law := fun _ h => List.mem_append_left _ (List.mem_append_left _ (List.mem_append_left _ (List.mem_append_right _ h)))
theorem inX1 : ∀ w ∈ wsX10, w ∈ lw_tbl := fun w h => wsL_law_in w (inlX1 w h)
theorem inlX2 : ∀ w ∈ wsX20, w ∈ wsL_law := fun _ h => List.mem_append_left _ (List.mem_append_left _ (List.mem_append_left _ (List.mem_append_left _ (List.mem_append_left _ (List.mem_append_left _ (List.mem_append_right _ h))))))
theorem inX2 : ∀ w ∈ wsX20, w ∈ lw_tbl := fun w h => wsL_law_in w (inlX2 w h)
theorem inlX3 : ∀ w ∈ wsX30, w ∈ wsL_law := fun _ h => List.mem_append_left _ (List.mem_append_left _ (List.mem_append_left _ (List.mem_append_left _ (List.mem_append_right _ h))))
theorem inX3 : ∀ w ∈ wsX30, w ∈ lw_tbl := fun w h => wsL_law_in w (inlX3 w h)
theorem inlX4 : ∀ w ∈ wsX40, w ∈ wsL_law := fun _ h => List.mem_append_left _ (List.mem_append_left _ (List.mem_append_left _ (List.mem_append_left _ (List.mem_append_left _ (List.mem_append_right _ h)))))
theorem inX4 : ∀ w ∈ wsX40, w ∈ lw_tbl := fun w h => wsL_law_in w (inlX4 w h)
theorem inlX5 : ∀ w ∈ wsX50, w ∈ wsL_law := fun _ h => List.mem_append_left _ (List.mem_append_right _ h)
theorem inX5 : ∀ w ∈ wsX50, w ∈ lw_tbl := fun w h => wsL_law_in w (inlX5 w h)
theorem inlX6 : ∀ w ∈ wsX60, w ∈ wsL_law := fun _ h => List.mem_append_left _ (List.mem_append_left _ (List.mem_append_left _ (List.mem_append_left _ (List.mem_append_left _ (List.mem_append_left _ (List.mem_append_left _ (List.mem_append_left _ (List.mem_append_right _ h))))))))
theorem inX6 : ∀ w ∈ wsX60, w ∈ lw_tbl := fun w h => wsL_law_in w (inlX6 w h)
theorem inlX7 : ∀ w ∈ wsX70, w ∈ wsL_law := fun _ h => List.mem_append_left _ (List.mem_append_left _ (List.mem_append_left _ (List.mem_append_left _ (List.mem_append_left _ (List.mem_append_left _ (List.mem_append_left _ (List.mem_append_right _ h)))))))
theorem inX7 : ∀ w ∈ wsX70, w ∈ lw_tbl := fun w h => wsL_law_in w (inlX7 w h)
theorem inJ6 : ∀ w ∈ wsJ60, w ∈ lw_tbl := by decide +kernel
theorem inJ9 : ∀ w ∈ wsJ90, w ∈ lw_tbl := by decide +kernel
theorem inJ0 : ∀ w ∈ wsJ00, w ∈ lw_tbl := by decide +kernel
theorem inJ1 : ∀ w ∈ wsJ10, w ∈ lw_tbl := by decide +kernel
theorem inJ2 : ∀ w ∈ wsJ20, w ∈ lw_tbl := by decide +kernel
theorem inJ10 : ∀ w ∈ wsJ100, w ∈ lw_tbl := by decide +kernel
theorem inJ3 : ∀ w ∈ wsJ30, w ∈ lw_tbl := by decide +kernel
theorem dX0_init_0 : decode cX0_init 0 = .ok (.aload_n 0, 1) := by decide +kernel
theorem dX0_init_1 : decode cX0_init 1 = .ok (.invokespecial 3, 3) := by decide +kernel
theorem dX0_init_4 : decode cX0_init 4 = .ok (.aload_n 0, 1) := by decide +kernel
theorem dX0_init_5 : decode cX0_init 5 = .ok (.bipush 8, 2) := by decide +kernel
theorem dX0_init_7 : decode cX0_init 7 = .ok (.newarray .int, 2) := by decide +kernel
theorem dX0_init_9 : decode cX0_init 9 = .ok (.putfield 9, 3) := by decide +kernel
theorem dX0_init_12 : decode cX0_init 12 = .ok (.aload_n 0, 1) := by decide +kernel
theorem dX0_init_13 : decode cX0_init 13 = .ok (.bipush 8, 2) := by decide +kernel
theorem dX0_init_15 : decode cX0_init 15 = .ok (.newarray .int, 2) := by decide +kernel
theorem dX0_init_17 : decode cX0_init 17 = .ok (.putfield 15, 3) := by decide +kernel
theorem dX0_init_20 : decode cX0_init 20 = .ok (.aload_n 0, 1) := by decide +kernel
theorem dX0_init_21 : decode cX0_init 21 = .ok (.bipush 8, 2) := by decide +kernel
theorem dX0_init_23 : decode cX0_init 23 = .ok (.newarray .int, 2) := by decide +kernel
theorem dX0_init_25 : decode cX0_init 25 = .ok (.putfield 18, 3) := by decide +kernel
theorem dX0_init_28 : decode cX0_init 28 = .ok (.aload_n 0, 1) := by decide +kernel
theorem dX0_init_29 : decode cX0_init 29 = .ok (.bipush 8, 2) := by decide +kernel
theorem dX0_init_31 : decode cX0_init 31 = .ok (.newarray .int, 2) := by decide +kernel
theorem dX0_init_33 : decode cX0_init 33 = .ok (.putfield 21, 3) := by decide +kernel
theorem dX0_init_36 : decode cX0_init 36 = .ok (.aload_n 0, 1) := by decide +kernel
theorem dX0_init_37 : decode cX0_init 37 = .ok (.bipush 8, 2) := by decide +kernel
theorem dX0_init_39 : decode cX0_init 39 = .ok (.newarray .int, 2) := by decide +kernel
theorem dX0_init_41 : decode cX0_init 41 = .ok (.putfield 24, 3) := by decide +kernel
theorem dX0_init_44 : decode cX0_init 44 = .ok (.aload_n 0, 1) := by decide +kernel
theorem dX0_init_45 : decode cX0_init 45 = .ok (.bipush 8, 2) := by decide +kernel
theorem dX0_init_47 : decode cX0_init 47 = .ok (.newarray .int, 2) := by decide +kernel
theorem dX0_init_49 : decode cX0_init 49 = .ok (.putfield 27, 3) := by decide +kernel
theorem dX0_init_52 : decode cX0_init 52 = .ok (.return_, 1) := by decide +kernel
set_option maxRecDepth 20000 in
theorem ggX0_copyFrom_X6_copyRow : GoodIn wsX0_copyFrom wsX6_copyRow := goodIn_r _ [10, 11, 12, 13, 14] (by decide +kernel) (by decide +kernel)
set_option maxRecDepth 20000 in
theorem gX0_copyFrom_X6_copyRow_n34 : GoodIn wsX0_copyFrom (wsX6_copyRow) := ggX0_copyFrom_X6_copyRow
theorem dX0_copyFrom_0 : decode cX0_copyFrom 0 = .ok (.aload_n 0, 1) := by decide +kernel
theorem dX0_copyFrom_1 : decode cX0_copyFrom 1 = .ok (.aload_n 1, 1) := by decide +kernel
theorem dX0_copyFrom_2 : decode cX0_copyFrom 2 = .ok (.getfield 30, 3) := by decide +kernel
theorem dX0_copyFrom_5 : decode cX0_copyFrom 5 = .ok (.putfield 30, 3) := by decide +kernel
theorem dX0_copyFrom_8 : decode cX0_copyFrom 8 = .ok (.aload_n 1, 1) := by decide +kernel
theorem dX0_copyFrom_9 : decode cX0_copyFrom 9 = .ok (.getfield 9, 3) := by decide +kernel
theorem dX0_copyFrom_12 : decode cX0_copyFrom 12 = .ok (.aload_n 0, 1) := by decide +kernel
theorem dX0_copyFrom_13 : decode cX0_copyFrom 13 = .ok (.getfield 9, 3) := by decide +kernel
theorem dX0_copyFrom_16 : decode cX0_copyFrom 16 = .ok (.aload_n 0, 1) := by decide +kernel
theorem dX0_copyFrom_17 : decode cX0_copyFrom 17 = .ok (.getfield 30, 3) := by decide +kernel
theorem dX0_copyFrom_20 : decode cX0_copyFrom 20 = .ok (.invokestatic 34, 3) := by decide +kernel
theorem dX0_copyFrom_23 : decode cX0_copyFrom 23 = .ok (.aload_n 1, 1) := by decide +kernel
theorem dX0_copyFrom_24 : decode cX0_copyFrom 24 = .ok (.getfield 15, 3) := by decide +kernel
theorem dX0_copyFrom_27 : decode cX0_copyFrom 27 = .ok (.aload_n 0, 1) := by decide +kernel
theorem dX0_copyFrom_28 : decode cX0_copyFrom 28 = .ok (.getfield 15, 3) := by decide +kernel
theorem dX0_copyFrom_31 : decode cX0_copyFrom 31 = .ok (.aload_n 0, 1) := by decide +kernel
theorem dX0_copyFrom_32 : decode cX0_copyFrom 32 = .ok (.getfield 30, 3) := by decide +kernel
theorem dX0_copyFrom_35 : decode cX0_copyFrom 35 = .ok (.invokestatic 34, 3) := by decide +kernel
theorem dX0_copyFrom_38 : decode cX0_copyFrom 38 = .ok (.aload_n 1, 1) := by decide +kernel
theorem dX0_copyFrom_39 : decode cX0_copyFrom 39 = .ok (.getfield 18, 3) := by decide +kernel
theorem dX0_copyFrom_42 : decode cX0_copyFrom 42 = .ok (.aload_n 0, 1) := by decide +kernel
theorem dX0_copyFrom_43 : decode cX0_copyFrom 43 = .ok (.getfield 18, 3) := by decide +kernel
theorem dX0_copyFrom_46 : decode cX0_copyFrom 46 = .ok (.aload_n 0, 1) := by decide +kernel
theorem dX0_copyFrom_47 : decode cX0_copyFrom 47 = .ok (.getfield 30, 3) := by decide +kernel
theorem dX0_copyFrom_50 : decode cX0_copyFrom 50 = .ok (.invokestatic 34, 3) := by decide +kernel
theorem dX0_copyFrom_53 : decode cX0_copyFrom 53 = .ok (.aload_n 1, 1) := by decide +kernel
theorem dX0_copyFrom_54 : decode cX0_copyFrom 54 = .ok (.getfield 21, 3) := by decide +kernel
theorem dX0_copyFrom_57 : decode cX0_copyFrom 57 = .ok (.aload_n 0, 1) := by decide +kernel
theorem dX0_copyFrom_58 : decode cX0_copyFrom 58 = .ok (.getfield 21, 3) := by decide +kernel
theorem dX0_copyFrom_61 : decode cX0_copyFrom 61 = .ok (.aload_n 0, 1) := by decide +kernel
theorem dX0_copyFrom_62 : decode cX0_copyFrom 62 = .ok (.getfield 30, 3) := by decide +kernel
theorem dX0_copyFrom_65 : decode cX0_copyFrom 65 = .ok (.invokestatic 34, 3) := by decide +kernel
theorem dX0_copyFrom_68 : decode cX0_copyFrom 68 = .ok (.aload_n 1, 1) := by decide +kernel
theorem dX0_copyFrom_69 : decode cX0_copyFrom 69 = .ok (.getfield 24, 3) := by decide +kernel
theorem dX0_copyFrom_72 : decode cX0_copyFrom 72 = .ok (.aload_n 0, 1) := by decide +kernel
theorem dX0_copyFrom_73 : decode cX0_copyFrom 73 = .ok (.getfield 24, 3) := by decide +kernel
theorem dX0_copyFrom_76 : decode cX0_copyFrom 76 = .ok (.aload_n 0, 1) := by decide +kernel
theorem dX0_copyFrom_77 : decode cX0_copyFrom 77 = .ok (.getfield 30, 3) := by decide +kernel
theorem dX0_copyFrom_80 : decode cX0_copyFrom 80 = .ok (.invokestatic 34, 3) := by decide +kernel
theorem dX0_copyFrom_83 : decode cX0_copyFrom 83 = .ok (.aload_n 1, 1) := by decide +kernel
theorem dX0_copyFrom_84 : decode cX0_copyFrom 84 = .ok (.getfield 27, 3) := by decide +kernel
theorem dX0_copyFrom_87 : decode cX0_copyFrom 87 = .ok (.aload_n 0, 1) := by decide +kernel
theorem dX0_copyFrom_88 : decode cX0_copyFrom 88 = .ok (.getfield 27, 3) := by decide +kernel
theorem dX0_copyFrom_91 : decode cX0_copyFrom 91 = .ok (.aload_n 0, 1) := by decide +kernel
theorem dX0_copyFrom_92 : decode cX0_copyFrom 92 = .ok (.getfield 30, 3) := by decide +kernel
theorem dX0_copyFrom_95 : decode cX0_copyFrom 95 = .ok (.invokestatic 34, 3) := by decide +kernel
theorem dX0_copyFrom_98 : decode cX0_copyFrom 98 = .ok (.return_, 1) := by decide +kernel
theorem dX0_add_0 : decode cX0_add 0 = .ok (.aload_n 0, 1) := by decide +kernel
theorem dX0_add_1 : decode cX0_add 1 = .ok (.getfield 30, 3) := by decide +kernel
theorem dX0_add_4 : decode cX0_add 4 = .ok (.istore_n 2, 1) := by decide +kernel
theorem dX0_add_5 : decode cX0_add 5 = .ok (.iload_n 2, 1) := by decide +kernel
theorem dX0_add_6 : decode cX0_add 6 = .ok (.bipush 8, 2) := by decide +kernel
theorem dX0_add_8 : decode cX0_add 8 = .ok (.if_icmp .lt 5, 3) := by decide +kernel
theorem dX0_add_11 : decode cX0_add 11 = .ok (.iconst (-1), 1) := by decide +kernel
theorem dX0_add_12 : decode cX0_add 12 = .ok (.ireturn, 1) := by decide +kernel
theorem dX0_add_13 : decode cX0_add 13 = .ok (.aload_n 0, 1) := by decide +kernel
theorem dX0_add_14 : decode cX0_add 14 = .ok (.getfield 9, 3) := by decide +kernel
theorem dX0_add_17 : decode cX0_add 17 = .ok (.iload_n 2, 1) := by decide +kernel
theorem dX0_add_18 : decode cX0_add 18 = .ok (.iload_n 1, 1) := by decide +kernel
theorem dX0_add_19 : decode cX0_add 19 = .ok (.iastore, 1) := by decide +kernel
theorem dX0_add_20 : decode cX0_add 20 = .ok (.aload_n 0, 1) := by decide +kernel
theorem dX0_add_21 : decode cX0_add 21 = .ok (.getfield 15, 3) := by decide +kernel
theorem dX0_add_24 : decode cX0_add 24 = .ok (.iload_n 2, 1) := by decide +kernel
theorem dX0_add_25 : decode cX0_add 25 = .ok (.iconst 0, 1) := by decide +kernel
theorem dX0_add_26 : decode cX0_add 26 = .ok (.iastore, 1) := by decide +kernel
theorem dX0_add_27 : decode cX0_add 27 = .ok (.aload_n 0, 1) := by decide +kernel
theorem dX0_add_28 : decode cX0_add 28 = .ok (.getfield 18, 3) := by decide +kernel
theorem dX0_add_31 : decode cX0_add 31 = .ok (.iload_n 2, 1) := by decide +kernel
theorem dX0_add_32 : decode cX0_add 32 = .ok (.iconst 0, 1) := by decide +kernel
theorem dX0_add_33 : decode cX0_add 33 = .ok (.iastore, 1) := by decide +kernel
theorem dX0_add_34 : decode cX0_add 34 = .ok (.aload_n 0, 1) := by decide +kernel
theorem dX0_add_35 : decode cX0_add 35 = .ok (.getfield 21, 3) := by decide +kernel
theorem dX0_add_38 : decode cX0_add 38 = .ok (.iload_n 2, 1) := by decide +kernel
theorem dX0_add_39 : decode cX0_add 39 = .ok (.iconst 0, 1) := by decide +kernel
theorem dX0_add_40 : decode cX0_add 40 = .ok (.iastore, 1) := by decide +kernel
theorem dX0_add_41 : decode cX0_add 41 = .ok (.aload_n 0, 1) := by decide +kernel
theorem dX0_add_42 : decode cX0_add 42 = .ok (.getfield 24, 3) := by decide +kernel
theorem dX0_add_45 : decode cX0_add 45 = .ok (.iload_n 2, 1) := by decide +kernel
theorem dX0_add_46 : decode cX0_add 46 = .ok (.iconst 0, 1) := by decide +kernel
theorem dX0_add_47 : decode cX0_add 47 = .ok (.iastore, 1) := by decide +kernel
theorem dX0_add_48 : decode cX0_add 48 = .ok (.aload_n 0, 1) := by decide +kernel
theorem dX0_add_49 : decode cX0_add 49 = .ok (.getfield 27, 3) := by decide +kernel
theorem dX0_add_52 : decode cX0_add 52 = .ok (.iload_n 2, 1) := by decide +kernel
theorem dX0_add_53 : decode cX0_add 53 = .ok (.iconst 0, 1) := by decide +kernel
theorem dX0_add_54 : decode cX0_add 54 = .ok (.iastore, 1) := by decide +kernel
theorem dX0_add_55 : decode cX0_add 55 = .ok (.aload_n 0, 1) := by decide +kernel
theorem dX0_add_56 : decode cX0_add 56 = .ok (.iload_n 2, 1) := by decide +kernel
theorem dX0_add_57 : decode cX0_add 57 = .ok (.iconst 1, 1) := by decide +kernel
theorem dX0_add_58 : decode cX0_add 58 = .ok (.iadd, 1) := by decide +kernel
theorem dX0_add_59 : decode cX0_add 59 = .ok (.putfield 30, 3) := by decide +kernel
theorem dX0_add_62 : decode cX0_add 62 = .ok (.iload_n 2, 1) := by decide +kernel
theorem dX0_add_63 : decode cX0_add 63 = .ok (.ireturn, 1) := by decide +kernel
theorem dX0_changeLevel_0 : decode cX0_changeLevel 0 = .ok (.aload_n 0, 1) := by decide +kernel
theorem dX0_changeLevel_1 : decode cX0_changeLevel 1 = .ok (.getfield 9, 3) := by decide +kernel
theorem dX0_changeLevel_4 : decode cX0_changeLevel 4 = .ok (.iload_n 1, 1) := by decide +kernel
theorem dX0_changeLevel_5 : decode cX0_changeLevel 5 = .ok (.iaload, 1) := by decide +kernel
theorem dX0_changeLevel_6 : decode cX0_changeLevel 6 = .ok (.istore_n 3, 1) := by decide +kernel
theorem dX0_changeLevel_7 : decode cX0_changeLevel 7 = .ok (.aload_n 0, 1) := by decide +kernel
theorem dX0_changeLevel_8 : decode cX0_changeLevel 8 = .ok (.getfield 9, 3) := by decide +kernel
theorem dX0_changeLevel_11 : decode cX0_changeLevel 11 = .ok (.iload_n 1, 1) := by decide +kernel
theorem dX0_changeLevel_12 : decode cX0_changeLevel 12 = .ok (.iload_n 2, 1) := by decide +kernel
theorem dX0_changeLevel_13 : decode cX0_changeLevel 13 = .ok (.iastore, 1) := by decide +kernel
theorem dX0_changeLevel_14 : decode cX0_changeLevel 14 = .ok (.iload_n 3, 1) := by decide +kernel
theorem dX0_changeLevel_15 : decode cX0_changeLevel 15 = .ok (.ireturn, 1) := by decide +kernel
theorem dX0_changeBarred_0 : decode cX0_changeBarred 0 = .ok (.aload_n 0, 1) := by decide +kernel
theorem dX0_changeBarred_1 : decode cX0_changeBarred 1 = .ok (.getfield 15, 3) := by decide +kernel
theorem dX0_changeBarred_4 : decode cX0_changeBarred 4 = .ok (.iload_n 1, 1) := by decide +kernel
theorem dX0_changeBarred_5 : decode cX0_changeBarred 5 = .ok (.iaload, 1) := by decide +kernel
theorem dX0_changeBarred_6 : decode cX0_changeBarred 6 = .ok (.istore_n 3, 1) := by decide +kernel
theorem dX0_changeBarred_7 : decode cX0_changeBarred 7 = .ok (.aload_n 0, 1) := by decide +kernel
theorem dX0_changeBarred_8 : decode cX0_changeBarred 8 = .ok (.getfield 15, 3) := by decide +kernel
theorem dX0_changeBarred_11 : decode cX0_changeBarred 11 = .ok (.iload_n 1, 1) := by decide +kernel
theorem dX0_changeBarred_12 : decode cX0_changeBarred 12 = .ok (.iload_n 2, 1) := by decide +kernel
theorem dX0_changeBarred_13 : decode cX0_changeBarred 13 = .ok (.iastore, 1) := by decide +kernel
theorem dX0_changeBarred_14 : decode cX0_changeBarred 14 = .ok (.iload_n 3, 1) := by decide +kernel
theorem dX0_changeBarred_15 : decode cX0_changeBarred 15 = .ok (.ireturn, 1) := by decide +kernel
theorem dX0_fact_0 : decode cX0_fact 0 = .ok (.iload_n 2, 1) := by decide +kernel
theorem dX0_fact_1 : decode cX0_fact 1 = .ok (.tableswitch 70 0 4 #[35, 42, 49, 56, 63], 35) := by decide +kernel
theorem dX0_fact_36 : decode cX0_fact 36 = .ok (.aload_n 0, 1) := by decide +kernel
theorem dX0_fact_37 : decode cX0_fact 37 = .ok (.getfield 9, 3) := by decide +kernel
theorem dX0_fact_40 : decode cX0_fact 40 = .ok (.iload_n 1, 1) := by decide +kernel
theorem dX0_fact_41 : decode cX0_fact 41 = .ok (.iaload, 1) := by decide +kernel
theorem dX0_fact_42 : decode cX0_fact 42 = .ok (.ireturn, 1) := by decide +kernel
theorem dX0_fact_43 : decode cX0_fact 43 = .ok (.aload_n 0, 1) := by decide +kernel
theorem dX0_fact_44 : decode cX0_fact 44 = .ok (.getfield 15, 3) := by decide +kernel
theorem dX0_fact_47 : decode cX0_fact 47 = .ok (.iload_n 1, 1) := by decide +kernel
theorem dX0_fact_48 : decode cX0_fact 48 = .ok (.iaload, 1) := by decide +kernel
theorem dX0_fact_49 : decode cX0_fact 49 = .ok (.ireturn, 1) := by decide +kernel
theorem dX0_fact_50 : decode cX0_fact 50 = .ok (.aload_n 0, 1) := by decide +kernel
theorem dX0_fact_51 : decode cX0_fact 51 = .ok (.getfield 18, 3) := by decide +kernel
theorem dX0_fact_54 : decode cX0_fact 54 = .ok (.iload_n 1, 1) := by decide +kernel
theorem dX0_fact_55 : decode cX0_fact 55 = .ok (.iaload, 1) := by decide +kernel
theorem dX0_fact_56 : decode cX0_fact 56 = .ok (.ireturn, 1) := by decide +kernel
theorem dX0_fact_57 : decode cX0_fact 57 = .ok (.aload_n 0, 1) := by decide +kernel
theorem dX0_fact_58 : decode cX0_fact 58 = .ok (.getfield 21, 3) := by decide +kernel
theorem dX0_fact_61 : decode cX0_fact 61 = .ok (.iload_n 1, 1) := by decide +kernel
theorem dX0_fact_62 : decode cX0_fact 62 = .ok (.iaload, 1) := by decide +kernel
theorem dX0_fact_63 : decode cX0_fact 63 = .ok (.ireturn, 1) := by decide +kernel
theorem dX0_fact_64 : decode cX0_fact 64 = .ok (.aload_n 0, 1) := by decide +kernel
theorem dX0_fact_65 : decode cX0_fact 65 = .ok (.getfield 24, 3) := by decide +kernel
theorem dX0_fact_68 : decode cX0_fact 68 = .ok (.iload_n 1, 1) := by decide +kernel
theorem dX0_fact_69 : decode cX0_fact 69 = .ok (.iaload, 1) := by decide +kernel
theorem dX0_fact_70 : decode cX0_fact 70 = .ok (.ireturn, 1) := by decide +kernel
theorem dX0_fact_71 : decode cX0_fact 71 = .ok (.aload_n 0, 1) := by decide +kernel
theorem dX0_fact_72 : decode cX0_fact 72 = .ok (.getfield 27, 3) := by decide +kernel
theorem dX0_fact_75 : decode cX0_fact 75 = .ok (.iload_n 1, 1) := by decide +kernel
theorem dX0_fact_76 : decode cX0_fact 76 = .ok (.iaload, 1) := by decide +kernel
theorem dX0_fact_77 : decode cX0_fact 77 = .ok (.ireturn, 1) := by decide +kernel
theorem dX0_bitsIn_0 : decode cX0_bitsIn 0 = .ok (.iconst 0, 1) := by decide +kernel
theorem dX0_bitsIn_1 : decode cX0_bitsIn 1 = .ok (.istore_n 2, 1) := by decide +kernel
theorem dX0_bitsIn_2 : decode cX0_bitsIn 2 = .ok (.iconst 0, 1) := by decide +kernel
theorem dX0_bitsIn_3 : decode cX0_bitsIn 3 = .ok (.istore_n 3, 1) := by decide +kernel
theorem dX0_bitsIn_4 : decode cX0_bitsIn 4 = .ok (.iload_n 3, 1) := by decide +kernel
theorem dX0_bitsIn_5 : decode cX0_bitsIn 5 = .ok (.aload_n 0, 1) := by decide +kernel
theorem dX0_bitsIn_6 : decode cX0_bitsIn 6 = .ok (.getfield 30, 3) := by decide +kernel
theorem dX0_bitsIn_9 : decode cX0_bitsIn 9 = .ok (.if_icmp .ge 25, 3) := by decide +kernel
theorem dX0_bitsIn_12 : decode cX0_bitsIn 12 = .ok (.aload_n 0, 1) := by decide +kernel
theorem dX0_bitsIn_13 : decode cX0_bitsIn 13 = .ok (.getfield 18, 3) := by decide +kernel
theorem dX0_bitsIn_16 : decode cX0_bitsIn 16 = .ok (.iload_n 3, 1) := by decide +kernel
theorem dX0_bitsIn_17 : decode cX0_bitsIn 17 = .ok (.iaload, 1) := by decide +kernel
theorem dX0_bitsIn_18 : decode cX0_bitsIn 18 = .ok (.iload_n 1, 1) := by decide +kernel
theorem dX0_bitsIn_19 : decode cX0_bitsIn 19 = .ok (.if_icmp .ne 9, 3) := by decide +kernel
theorem dX0_bitsIn_22 : decode cX0_bitsIn 22 = .ok (.iload_n 2, 1) := by decide +kernel
theorem dX0_bitsIn_23 : decode cX0_bitsIn 23 = .ok (.iconst 1, 1) := by decide +kernel
theorem dX0_bitsIn_24 : decode cX0_bitsIn 24 = .ok (.iload_n 3, 1) := by decide +kernel
theorem dX0_bitsIn_25 : decode cX0_bitsIn 25 = .ok (.ishl, 1) := by decide +kernel
theorem dX0_bitsIn_26 : decode cX0_bitsIn 26 = .ok (.ior, 1) := by decide +kernel
theorem dX0_bitsIn_27 : decode cX0_bitsIn 27 = .ok (.istore_n 2, 1) := by decide +kernel
theorem dX0_bitsIn_28 : decode cX0_bitsIn 28 = .ok (.iinc 3 1, 3) := by decide +kernel
theorem dX0_bitsIn_31 : decode cX0_bitsIn 31 = .ok (.goto (-27), 3) := by decide +kernel
theorem dX0_bitsIn_34 : decode cX0_bitsIn 34 = .ok (.iload_n 2, 1) := by decide +kernel
theorem dX0_bitsIn_35 : decode cX0_bitsIn 35 = .ok (.ireturn, 1) := by decide +kernel
theorem dX0_bitsInBut_0 : decode cX0_bitsInBut 0 = .ok (.iconst 0, 1) := by decide +kernel
theorem dX0_bitsInBut_1 : decode cX0_bitsInBut 1 = .ok (.istore_n 2, 1) := by decide +kernel
theorem dX0_bitsInBut_2 : decode cX0_bitsInBut 2 = .ok (.iconst 0, 1) := by decide +kernel
theorem dX0_bitsInBut_3 : decode cX0_bitsInBut 3 = .ok (.istore_n 3, 1) := by decide +kernel
theorem dX0_bitsInBut_4 : decode cX0_bitsInBut 4 = .ok (.iload_n 3, 1) := by decide +kernel
theorem dX0_bitsInBut_5 : decode cX0_bitsInBut 5 = .ok (.aload_n 0, 1) := by decide +kernel
theorem dX0_bitsInBut_6 : decode cX0_bitsInBut 6 = .ok (.getfield 30, 3) := by decide +kernel
theorem dX0_bitsInBut_9 : decode cX0_bitsInBut 9 = .ok (.if_icmp .ge 34, 3) := by decide +kernel
theorem dX0_bitsInBut_12 : decode cX0_bitsInBut 12 = .ok (.aload_n 0, 1) := by decide +kernel
theorem dX0_bitsInBut_13 : decode cX0_bitsInBut 13 = .ok (.getfield 18, 3) := by decide +kernel
theorem dX0_bitsInBut_16 : decode cX0_bitsInBut 16 = .ok (.iload_n 3, 1) := by decide +kernel
theorem dX0_bitsInBut_17 : decode cX0_bitsInBut 17 = .ok (.iaload, 1) := by decide +kernel
theorem dX0_bitsInBut_18 : decode cX0_bitsInBut 18 = .ok (.ifCond .eq 19, 3) := by decide +kernel
theorem dX0_bitsInBut_21 : decode cX0_bitsInBut 21 = .ok (.aload_n 0, 1) := by decide +kernel
theorem dX0_bitsInBut_22 : decode cX0_bitsInBut 22 = .ok (.getfield 18, 3) := by decide +kernel
theorem dX0_bitsInBut_25 : decode cX0_bitsInBut 25 = .ok (.iload_n 3, 1) := by decide +kernel
theorem dX0_bitsInBut_26 : decode cX0_bitsInBut 26 = .ok (.iaload, 1) := by decide +kernel
theorem dX0_bitsInBut_27 : decode cX0_bitsInBut 27 = .ok (.iload_n 1, 1) := by decide +kernel
theorem dX0_bitsInBut_28 : decode cX0_bitsInBut 28 = .ok (.if_icmp .eq 9, 3) := by decide +kernel
theorem dX0_bitsInBut_31 : decode cX0_bitsInBut 31 = .ok (.iload_n 2, 1) := by decide +kernel
theorem dX0_bitsInBut_32 : decode cX0_bitsInBut 32 = .ok (.iconst 1, 1) := by decide +kernel
theorem dX0_bitsInBut_33 : decode cX0_bitsInBut 33 = .ok (.iload_n 3, 1) := by decide +kernel
theorem dX0_bitsInBut_34 : decode cX0_bitsInBut 34 = .ok (.ishl, 1) := by decide +kernel
theorem dX0_bitsInBut_35 : decode cX0_bitsInBut 35 = .ok (.ior, 1) := by decide +kernel
theorem dX0_bitsInBut_36 : decode cX0_bitsInBut 36 = .ok (.istore_n 2, 1) := by decide +kernel
theorem dX0_bitsInBut_37 : decode cX0_bitsInBut 37 = .ok (.iinc 3 1, 3) := by decide +kernel
theorem dX0_bitsInBut_40 : decode cX0_bitsInBut 40 = .ok (.goto (-36), 3) := by decide +kernel
theorem dX0_bitsInBut_43 : decode cX0_bitsInBut 43 = .ok (.iload_n 2, 1) := by decide +kernel
theorem dX0_bitsInBut_44 : decode cX0_bitsInBut 44 = .ok (.ireturn, 1) := by decide +kernel
theorem dX1_init_0 : decode cX1_init 0 = .ok (.aload_n 0, 1) := by decide +kernel
theorem dX1_init_1 : decode cX1_init 1 = .ok (.invokespecial 3, 3) := by decide +kernel
theorem dX1_init_4 : decode cX1_init 4 = .ok (.aload_n 0, 1) := by decide +kernel
theorem dX1_init_5 : decode cX1_init 5 = .ok (.bipush 8, 2) := by decide +kernel
theorem dX1_init_7 : decode cX1_init 7 = .ok (.newarray .int, 2) := by decide +kernel
theorem dX1_init_9 : decode cX1_init 9 = .ok (.putfield 9, 3) := by decide +kernel
theorem dX1_init_12 : decode cX1_init 12 = .ok (.aload_n 0, 1) := by decide +kernel
theorem dX1_init_13 : decode cX1_init 13 = .ok (.bipush 8, 2) := by decide +kernel
theorem dX1_init_15 : decode cX1_init 15 = .ok (.newarray .int, 2) := by decide +kernel
theorem dX1_init_17 : decode cX1_init 17 = .ok (.putfield 15, 3) := by decide +kernel
theorem dX1_init_20 : decode cX1_init 20 = .ok (.aload_n 0, 1) := by decide +kernel
theorem dX1_init_21 : decode cX1_init 21 = .ok (.bipush 8, 2) := by decide +kernel
theorem dX1_init_23 : decode cX1_init 23 = .ok (.newarray .int, 2) := by decide +kernel
theorem dX1_init_25 : decode cX1_init 25 = .ok (.putfield 18, 3) := by decide +kernel
theorem dX1_init_28 : decode cX1_init 28 = .ok (.aload_n 0, 1) := by decide +kernel
theorem dX1_init_29 : decode cX1_init 29 = .ok (.bipush 8, 2) := by decide +kernel
theorem dX1_init_31 : decode cX1_init 31 = .ok (.newarray .int, 2) := by decide +kernel
theorem dX1_init_33 : decode cX1_init 33 = .ok (.putfield 21, 3) := by decide +kernel
theorem dX1_init_36 : decode cX1_init 36 = .ok (.aload_n 0, 1) := by decide +kernel
theorem dX1_init_37 : decode cX1_init 37 = .ok (.bipush 8, 2) := by decide +kernel
theorem dX1_init_39 : decode cX1_init 39 = .ok (.newarray .int, 2) := by decide +kernel
theorem dX1_init_41 : decode cX1_init 41 = .ok (.putfield 24, 3) := by decide +kernel
theorem dX1_init_44 : decode cX1_init 44 = .ok (.aload_n 0, 1) := by decide +kernel
theorem dX1_init_45 : decode cX1_init 45 = .ok (.bipush 8, 2) := by decide +kernel
theorem dX1_init_47 : decode cX1_init 47 = .ok (.newarray .int, 2) := by decide +kernel
theorem dX1_init_49 : decode cX1_init 49 = .ok (.putfield 27, 3) := by decide +kernel
theorem dX1_init_52 : decode cX1_init 52 = .ok (.aload_n 0, 1) := by decide +kernel
theorem dX1_init_53 : decode cX1_init 53 = .ok (.bipush 8, 2) := by decide +kernel
theorem dX1_init_55 : decode cX1_init 55 = .ok (.newarray .int, 2) := by decide +kernel
theorem dX1_init_57 : decode cX1_init 57 = .ok (.putfield 30, 3) := by decide +kernel
theorem dX1_init_60 : decode cX1_init 60 = .ok (.aload_n 0, 1) := by decide +kernel
theorem dX1_init_61 : decode cX1_init 61 = .ok (.bipush 8, 2) := by decide +kernel
theorem dX1_init_63 : decode cX1_init 63 = .ok (.newarray .int, 2) := by decide +kernel
theorem dX1_init_65 : decode cX1_init 65 = .ok (.putfield 33, 3) := by decide +kernel
theorem dX1_init_68 : decode cX1_init 68 = .ok (.aload_n 0, 1) := by decide +kernel
theorem dX1_init_69 : decode cX1_init 69 = .ok (.bipush 8, 2) := by decide +kernel
theorem dX1_init_71 : decode cX1_init 71 = .ok (.newarray .int, 2) := by decide +kernel
theorem dX1_init_73 : decode cX1_init 73 = .ok (.putfield 36, 3) := by decide +kernel
theorem dX1_init_76 : decode cX1_init 76 = .ok (.aload_n 0, 1) := by decide +kernel
theorem dX1_init_77 : decode cX1_init 77 = .ok (.bipush 8, 2) := by decide +kernel
theorem dX1_init_79 : decode cX1_init 79 = .ok (.newarray .int, 2) := by decide +kernel
theorem dX1_init_81 : decode cX1_init 81 = .ok (.putfield 39, 3) := by decide +kernel
theorem dX1_init_84 : decode cX1_init 84 = .ok (.aload_n 0, 1) := by decide +kernel
theorem dX1_init_85 : decode cX1_init 85 = .ok (.bipush 8, 2) := by decide +kernel
theorem dX1_init_87 : decode cX1_init 87 = .ok (.newarray .int, 2) := by decide +kernel
theorem dX1_init_89 : decode cX1_init 89 = .ok (.putfield 42, 3) := by decide +kernel
theorem dX1_init_92 : decode cX1_init 92 = .ok (.aload_n 0, 1) := by decide +kernel
theorem dX1_init_93 : decode cX1_init 93 = .ok (.sipush 160, 3) := by decide +kernel
theorem dX1_init_96 : decode cX1_init 96 = .ok (.newarray .int, 2) := by decide +kernel
theorem dX1_init_98 : decode cX1_init 98 = .ok (.putfield 45, 3) := by decide +kernel
theorem dX1_init_101 : decode cX1_init 101 = .ok (.aload_n 0, 1) := by decide +kernel
theorem dX1_init_102 : decode cX1_init 102 = .ok (.sipush 160, 3) := by decide +kernel
theorem dX1_init_105 : decode cX1_init 105 = .ok (.newarray .int, 2) := by decide +kernel
theorem dX1_init_107 : decode cX1_init 107 = .ok (.putfield 48, 3) := by decide +kernel
theorem dX1_init_110 : decode cX1_init 110 = .ok (.aload_n 0, 1) := by decide +kernel
theorem dX1_init_111 : decode cX1_init 111 = .ok (.bipush 8, 2) := by decide +kernel
theorem dX1_init_113 : decode cX1_init 113 = .ok (.newarray .int, 2) := by decide +kernel
theorem dX1_init_115 : decode cX1_init 115 = .ok (.putfield 51, 3) := by decide +kernel
theorem dX1_init_118 : decode cX1_init 118 = .ok (.aload_n 0, 1) := by decide +kernel
theorem dX1_init_119 : decode cX1_init 119 = .ok (.bipush 64, 2) := by decide +kernel
theorem dX1_init_121 : decode cX1_init 121 = .ok (.newarray .int, 2) := by decide +kernel
theorem dX1_init_123 : decode cX1_init 123 = .ok (.putfield 54, 3) := by decide +kernel
theorem dX1_init_126 : decode cX1_init 126 = .ok (.aload_n 0, 1) := by decide +kernel
theorem dX1_init_127 : decode cX1_init 127 = .ok (.bipush 64, 2) := by decide +kernel
theorem dX1_init_129 : decode cX1_init 129 = .ok (.newarray .int, 2) := by decide +kernel
theorem dX1_init_131 : decode cX1_init 131 = .ok (.putfield 57, 3) := by decide +kernel
theorem dX1_init_134 : decode cX1_init 134 = .ok (.return_, 1) := by decide +kernel
set_option maxRecDepth 20000 in
theorem ggX1_copyFrom_X6_copyRow : GoodIn wsX1_copyFrom wsX6_copyRow := goodIn_r _ [20, 21, 22, 23, 24] (by decide +kernel) (by decide +kernel)
set_option maxRecDepth 20000 in
theorem gX1_copyFrom_X6_copyRow_n64 : GoodIn wsX1_copyFrom (wsX6_copyRow) := ggX1_copyFrom_X6_copyRow
theorem dX1_copyFrom_0 : decode cX1_copyFrom 0 = .ok (.aload_n 0, 1) := by decide +kernel
theorem dX1_copyFrom_1 : decode cX1_copyFrom 1 = .ok (.aload_n 1, 1) := by decide +kernel
theorem dX1_copyFrom_2 : decode cX1_copyFrom 2 = .ok (.getfield 60, 3) := by decide +kernel
theorem dX1_copyFrom_5 : decode cX1_copyFrom 5 = .ok (.putfield 60, 3) := by decide +kernel
theorem dX1_copyFrom_8 : decode cX1_copyFrom 8 = .ok (.aload_n 1, 1) := by decide +kernel
theorem dX1_copyFrom_9 : decode cX1_copyFrom 9 = .ok (.getfield 9, 3) := by decide +kernel
theorem dX1_copyFrom_12 : decode cX1_copyFrom 12 = .ok (.aload_n 0, 1) := by decide +kernel
theorem dX1_copyFrom_13 : decode cX1_copyFrom 13 = .ok (.getfield 9, 3) := by decide +kernel
theorem dX1_copyFrom_16 : decode cX1_copyFrom 16 = .ok (.aload_n 0, 1) := by decide +kernel
theorem dX1_copyFrom_17 : decode cX1_copyFrom 17 = .ok (.getfield 60, 3) := by decide +kernel
theorem dX1_copyFrom_20 : decode cX1_copyFrom 20 = .ok (.invokestatic 64, 3) := by decide +kernel
theorem dX1_copyFrom_23 : decode cX1_copyFrom 23 = .ok (.aload_n 1, 1) := by decide +kernel
theorem dX1_copyFrom_24 : decode cX1_copyFrom 24 = .ok (.getfield 15, 3) := by decide +kernel
theorem dX1_copyFrom_27 : decode cX1_copyFrom 27 = .ok (.aload_n 0, 1) := by decide +kernel
theorem dX1_copyFrom_28 : decode cX1_copyFrom 28 = .ok (.getfield 15, 3) := by decide +kernel
theorem dX1_copyFrom_31 : decode cX1_copyFrom 31 = .ok (.aload_n 0, 1) := by decide +kernel
theorem dX1_copyFrom_32 : decode cX1_copyFrom 32 = .ok (.getfield 60, 3) := by decide +kernel
theorem dX1_copyFrom_35 : decode cX1_copyFrom 35 = .ok (.invokestatic 64, 3) := by decide +kernel
theorem dX1_copyFrom_38 : decode cX1_copyFrom 38 = .ok (.aload_n 1, 1) := by decide +kernel
theorem dX1_copyFrom_39 : decode cX1_copyFrom 39 = .ok (.getfield 18, 3) := by decide +kernel
theorem dX1_copyFrom_42 : decode cX1_copyFrom 42 = .ok (.aload_n 0, 1) := by decide +kernel
theorem dX1_copyFrom_43 : decode cX1_copyFrom 43 = .ok (.getfield 18, 3) := by decide +kernel
theorem dX1_copyFrom_46 : decode cX1_copyFrom 46 = .ok (.aload_n 0, 1) := by decide +kernel
theorem dX1_copyFrom_47 : decode cX1_copyFrom 47 = .ok (.getfield 60, 3) := by decide +kernel
theorem dX1_copyFrom_50 : decode cX1_copyFrom 50 = .ok (.invokestatic 64, 3) := by decide +kernel
theorem dX1_copyFrom_53 : decode cX1_copyFrom 53 = .ok (.aload_n 1, 1) := by decide +kernel
theorem dX1_copyFrom_54 : decode cX1_copyFrom 54 = .ok (.getfield 21, 3) := by decide +kernel
theorem dX1_copyFrom_57 : decode cX1_copyFrom 57 = .ok (.aload_n 0, 1) := by decide +kernel
theorem dX1_copyFrom_58 : decode cX1_copyFrom 58 = .ok (.getfield 21, 3) := by decide +kernel
theorem dX1_copyFrom_61 : decode cX1_copyFrom 61 = .ok (.aload_n 0, 1) := by decide +kernel
theorem dX1_copyFrom_62 : decode cX1_copyFrom 62 = .ok (.getfield 60, 3) := by decide +kernel
theorem dX1_copyFrom_65 : decode cX1_copyFrom 65 = .ok (.invokestatic 64, 3) := by decide +kernel
theorem dX1_copyFrom_68 : decode cX1_copyFrom 68 = .ok (.aload_n 1, 1) := by decide +kernel
theorem dX1_copyFrom_69 : decode cX1_copyFrom 69 = .ok (.getfield 24, 3) := by decide +kernel
theorem dX1_copyFrom_72 : decode cX1_copyFrom 72 = .ok (.aload_n 0, 1) := by decide +kernel
theorem dX1_copyFrom_73 : decode cX1_copyFrom 73 = .ok (.getfield 24, 3) := by decide +kernel
theorem dX1_copyFrom_76 : decode cX1_copyFrom 76 = .ok (.aload_n 0, 1) := by decide +kernel
theorem dX1_copyFrom_77 : decode cX1_copyFrom 77 = .ok (.getfield 60, 3) := by decide +kernel
theorem dX1_copyFrom_80 : decode cX1_copyFrom 80 = .ok (.invokestatic 64, 3) := by decide +kernel
theorem dX1_copyFrom_83 : decode cX1_copyFrom 83 = .ok (.aload_n 1, 1) := by decide +kernel
theorem dX1_copyFrom_84 : decode cX1_copyFrom 84 = .ok (.getfield 27, 3) := by decide +kernel
theorem dX1_copyFrom_87 : decode cX1_copyFrom 87 = .ok (.aload_n 0, 1) := by decide +kernel
theorem dX1_copyFrom_88 : decode cX1_copyFrom 88 = .ok (.getfield 27, 3) := by decide +kernel
theorem dX1_copyFrom_91 : decode cX1_copyFrom 91 = .ok (.aload_n 0, 1) := by decide +kernel
theorem dX1_copyFrom_92 : decode cX1_copyFrom 92 = .ok (.getfield 60, 3) := by decide +kernel
theorem dX1_copyFrom_95 : decode cX1_copyFrom 95 = .ok (.invokestatic 64, 3) := by decide +kernel
theorem dX1_copyFrom_98 : decode cX1_copyFrom 98 = .ok (.aload_n 1, 1) := by decide +kernel
theorem dX1_copyFrom_99 : decode cX1_copyFrom 99 = .ok (.getfield 30, 3) := by decide +kernel
theorem dX1_copyFrom_102 : decode cX1_copyFrom 102 = .ok (.aload_n 0, 1) := by decide +kernel
theorem dX1_copyFrom_103 : decode cX1_copyFrom 103 = .ok (.getfield 30, 3) := by decide +kernel
theorem dX1_copyFrom_106 : decode cX1_copyFrom 106 = .ok (.aload_n 0, 1) := by decide +kernel
theorem dX1_copyFrom_107 : decode cX1_copyFrom 107 = .ok (.getfield 60, 3) := by decide +kernel
theorem dX1_copyFrom_110 : decode cX1_copyFrom 110 = .ok (.invokestatic 64, 3) := by decide +kernel
theorem dX1_copyFrom_113 : decode cX1_copyFrom 113 = .ok (.aload_n 1, 1) := by decide +kernel
theorem dX1_copyFrom_114 : decode cX1_copyFrom 114 = .ok (.getfield 33, 3) := by decide +kernel
theorem dX1_copyFrom_117 : decode cX1_copyFrom 117 = .ok (.aload_n 0, 1) := by decide +kernel
theorem dX1_copyFrom_118 : decode cX1_copyFrom 118 = .ok (.getfield 33, 3) := by decide +kernel
theorem dX1_copyFrom_121 : decode cX1_copyFrom 121 = .ok (.aload_n 0, 1) := by decide +kernel
theorem dX1_copyFrom_122 : decode cX1_copyFrom 122 = .ok (.getfield 60, 3) := by decide +kernel
theorem dX1_copyFrom_125 : decode cX1_copyFrom 125 = .ok (.invokestatic 64, 3) := by decide +kernel
theorem dX1_copyFrom_128 : decode cX1_copyFrom 128 = .ok (.aload_n 1, 1) := by decide +kernel
theorem dX1_copyFrom_129 : decode cX1_copyFrom 129 = .ok (.getfield 36, 3) := by decide +kernel
theorem dX1_copyFrom_132 : decode cX1_copyFrom 132 = .ok (.aload_n 0, 1) := by decide +kernel
theorem dX1_copyFrom_133 : decode cX1_copyFrom 133 = .ok (.getfield 36, 3) := by decide +kernel
theorem dX1_copyFrom_136 : decode cX1_copyFrom 136 = .ok (.aload_n 0, 1) := by decide +kernel
theorem dX1_copyFrom_137 : decode cX1_copyFrom 137 = .ok (.getfield 60, 3) := by decide +kernel
theorem dX1_copyFrom_140 : decode cX1_copyFrom 140 = .ok (.invokestatic 64, 3) := by decide +kernel
theorem dX1_copyFrom_143 : decode cX1_copyFrom 143 = .ok (.aload_n 1, 1) := by decide +kernel
theorem dX1_copyFrom_144 : decode cX1_copyFrom 144 = .ok (.getfield 39, 3) := by decide +kernel
theorem dX1_copyFrom_147 : decode cX1_copyFrom 147 = .ok (.aload_n 0, 1) := by decide +kernel
theorem dX1_copyFrom_148 : decode cX1_copyFrom 148 = .ok (.getfield 39, 3) := by decide +kernel
theorem dX1_copyFrom_151 : decode cX1_copyFrom 151 = .ok (.aload_n 0, 1) := by decide +kernel
theorem dX1_copyFrom_152 : decode cX1_copyFrom 152 = .ok (.getfield 60, 3) := by decide +kernel
theorem dX1_copyFrom_155 : decode cX1_copyFrom 155 = .ok (.invokestatic 64, 3) := by decide +kernel
theorem dX1_copyFrom_158 : decode cX1_copyFrom 158 = .ok (.aload_n 1, 1) := by decide +kernel
theorem dX1_copyFrom_159 : decode cX1_copyFrom 159 = .ok (.getfield 42, 3) := by decide +kernel
theorem dX1_copyFrom_162 : decode cX1_copyFrom 162 = .ok (.aload_n 0, 1) := by decide +kernel
theorem dX1_copyFrom_163 : decode cX1_copyFrom 163 = .ok (.getfield 42, 3) := by decide +kernel
theorem dX1_copyFrom_166 : decode cX1_copyFrom 166 = .ok (.aload_n 0, 1) := by decide +kernel
theorem dX1_copyFrom_167 : decode cX1_copyFrom 167 = .ok (.getfield 60, 3) := by decide +kernel
theorem dX1_copyFrom_170 : decode cX1_copyFrom 170 = .ok (.invokestatic 64, 3) := by decide +kernel
theorem dX1_copyFrom_173 : decode cX1_copyFrom 173 = .ok (.aload_n 1, 1) := by decide +kernel
theorem dX1_copyFrom_174 : decode cX1_copyFrom 174 = .ok (.getfield 45, 3) := by decide +kernel
theorem dX1_copyFrom_177 : decode cX1_copyFrom 177 = .ok (.aload_n 0, 1) := by decide +kernel
theorem dX1_copyFrom_178 : decode cX1_copyFrom 178 = .ok (.getfield 45, 3) := by decide +kernel
theorem dX1_copyFrom_181 : decode cX1_copyFrom 181 = .ok (.aload_n 0, 1) := by decide +kernel
theorem dX1_copyFrom_182 : decode cX1_copyFrom 182 = .ok (.getfield 60, 3) := by decide +kernel
theorem dX1_copyFrom_185 : decode cX1_copyFrom 185 = .ok (.bipush 20, 2) := by decide +kernel
theorem dX1_copyFrom_187 : decode cX1_copyFrom 187 = .ok (.imul, 1) := by decide +kernel
theorem dX1_copyFrom_188 : decode cX1_copyFrom 188 = .ok (.invokestatic 64, 3) := by decide +kernel
theorem dX1_copyFrom_191 : decode cX1_copyFrom 191 = .ok (.aload_n 1, 1) := by decide +kernel
theorem dX1_copyFrom_192 : decode cX1_copyFrom 192 = .ok (.getfield 48, 3) := by decide +kernel
theorem dX1_copyFrom_195 : decode cX1_copyFrom 195 = .ok (.aload_n 0, 1) := by decide +kernel
theorem dX1_copyFrom_196 : decode cX1_copyFrom 196 = .ok (.getfield 48, 3) := by decide +kernel
theorem dX1_copyFrom_199 : decode cX1_copyFrom 199 = .ok (.aload_n 0, 1) := by decide +kernel
theorem dX1_copyFrom_200 : decode cX1_copyFrom 200 = .ok (.getfield 60, 3) := by decide +kernel
theorem dX1_copyFrom_203 : decode cX1_copyFrom 203 = .ok (.bipush 20, 2) := by decide +kernel
theorem dX1_copyFrom_205 : decode cX1_copyFrom 205 = .ok (.imul, 1) := by decide +kernel
theorem dX1_copyFrom_206 : decode cX1_copyFrom 206 = .ok (.invokestatic 64, 3) := by decide +kernel
theorem dX1_copyFrom_209 : decode cX1_copyFrom 209 = .ok (.aload_n 1, 1) := by decide +kernel
theorem dX1_copyFrom_210 : decode cX1_copyFrom 210 = .ok (.getfield 51, 3) := by decide +kernel
theorem dX1_copyFrom_213 : decode cX1_copyFrom 213 = .ok (.aload_n 0, 1) := by decide +kernel
theorem dX1_copyFrom_214 : decode cX1_copyFrom 214 = .ok (.getfield 51, 3) := by decide +kernel
theorem dX1_copyFrom_217 : decode cX1_copyFrom 217 = .ok (.aload_n 0, 1) := by decide +kernel
theorem dX1_copyFrom_218 : decode cX1_copyFrom 218 = .ok (.getfield 60, 3) := by decide +kernel
theorem dX1_copyFrom_221 : decode cX1_copyFrom 221 = .ok (.invokestatic 64, 3) := by decide +kernel
theorem dX1_copyFrom_224 : decode cX1_copyFrom 224 = .ok (.aload_n 1, 1) := by decide +kernel
theorem dX1_copyFrom_225 : decode cX1_copyFrom 225 = .ok (.getfield 54, 3) := by decide +kernel
theorem dX1_copyFrom_228 : decode cX1_copyFrom 228 = .ok (.aload_n 0, 1) := by decide +kernel
theorem dX1_copyFrom_229 : decode cX1_copyFrom 229 = .ok (.getfield 54, 3) := by decide +kernel
theorem dX1_copyFrom_232 : decode cX1_copyFrom 232 = .ok (.aload_n 0, 1) := by decide +kernel
theorem dX1_copyFrom_233 : decode cX1_copyFrom 233 = .ok (.getfield 60, 3) := by decide +kernel
theorem dX1_copyFrom_236 : decode cX1_copyFrom 236 = .ok (.bipush 8, 2) := by decide +kernel
theorem dX1_copyFrom_238 : decode cX1_copyFrom 238 = .ok (.imul, 1) := by decide +kernel
theorem dX1_copyFrom_239 : decode cX1_copyFrom 239 = .ok (.invokestatic 64, 3) := by decide +kernel
theorem dX1_copyFrom_242 : decode cX1_copyFrom 242 = .ok (.aload_n 1, 1) := by decide +kernel
theorem dX1_copyFrom_243 : decode cX1_copyFrom 243 = .ok (.getfield 57, 3) := by decide +kernel
theorem dX1_copyFrom_246 : decode cX1_copyFrom 246 = .ok (.aload_n 0, 1) := by decide +kernel
theorem dX1_copyFrom_247 : decode cX1_copyFrom 247 = .ok (.getfield 57, 3) := by decide +kernel
theorem dX1_copyFrom_250 : decode cX1_copyFrom 250 = .ok (.aload_n 0, 1) := by decide +kernel
theorem dX1_copyFrom_251 : decode cX1_copyFrom 251 = .ok (.getfield 60, 3) := by decide +kernel
theorem dX1_copyFrom_254 : decode cX1_copyFrom 254 = .ok (.bipush 8, 2) := by decide +kernel
theorem dX1_copyFrom_256 : decode cX1_copyFrom 256 = .ok (.imul, 1) := by decide +kernel
theorem dX1_copyFrom_257 : decode cX1_copyFrom 257 = .ok (.invokestatic 64, 3) := by decide +kernel
theorem dX1_copyFrom_260 : decode cX1_copyFrom 260 = .ok (.return_, 1) := by decide +kernel
theorem dX1_add_0 : decode cX1_add 0 = .ok (.aload_n 0, 1) := by decide +kernel
theorem dX1_add_1 : decode cX1_add 1 = .ok (.getfield 60, 3) := by decide +kernel
theorem dX1_add_4 : decode cX1_add 4 = .ok (.istore 5, 2) := by decide +kernel
theorem dX1_add_6 : decode cX1_add 6 = .ok (.iload 5, 2) := by decide +kernel
theorem dX1_add_8 : decode cX1_add 8 = .ok (.bipush 8, 2) := by decide +kernel
theorem dX1_add_10 : decode cX1_add 10 = .ok (.if_icmp .lt 5, 3) := by decide +kernel
theorem dX1_add_13 : decode cX1_add 13 = .ok (.iconst (-1), 1) := by decide +kernel
theorem dX1_add_14 : decode cX1_add 14 = .ok (.ireturn, 1) := by decide +kernel
theorem dX1_add_15 : decode cX1_add 15 = .ok (.aload_n 0, 1) := by decide +kernel
theorem dX1_add_16 : decode cX1_add 16 = .ok (.getfield 9, 3) := by decide +kernel
theorem dX1_add_19 : decode cX1_add 19 = .ok (.iload 5, 2) := by decide +kernel
theorem dX1_add_21 : decode cX1_add 21 = .ok (.iload_n 1, 1) := by decide +kernel
theorem dX1_add_22 : decode cX1_add 22 = .ok (.iastore, 1) := by decide +kernel
theorem dX1_add_23 : decode cX1_add 23 = .ok (.aload_n 0, 1) := by decide +kernel
theorem dX1_add_24 : decode cX1_add 24 = .ok (.getfield 15, 3) := by decide +kernel
theorem dX1_add_27 : decode cX1_add 27 = .ok (.iload 5, 2) := by decide +kernel
theorem dX1_add_29 : decode cX1_add 29 = .ok (.iload_n 2, 1) := by decide +kernel
theorem dX1_add_30 : decode cX1_add 30 = .ok (.iastore, 1) := by decide +kernel
theorem dX1_add_31 : decode cX1_add 31 = .ok (.aload_n 0, 1) := by decide +kernel
theorem dX1_add_32 : decode cX1_add 32 = .ok (.getfield 18, 3) := by decide +kernel
theorem dX1_add_35 : decode cX1_add 35 = .ok (.iload 5, 2) := by decide +kernel
theorem dX1_add_37 : decode cX1_add 37 = .ok (.iload_n 3, 1) := by decide +kernel
theorem dX1_add_38 : decode cX1_add 38 = .ok (.iastore, 1) := by decide +kernel
theorem dX1_add_39 : decode cX1_add 39 = .ok (.aload_n 0, 1) := by decide +kernel
theorem dX1_add_40 : decode cX1_add 40 = .ok (.getfield 21, 3) := by decide +kernel
theorem dX1_add_43 : decode cX1_add 43 = .ok (.iload 5, 2) := by decide +kernel
theorem dX1_add_45 : decode cX1_add 45 = .ok (.iload 4, 2) := by decide +kernel
theorem dX1_add_47 : decode cX1_add 47 = .ok (.iastore, 1) := by decide +kernel
theorem dX1_add_48 : decode cX1_add 48 = .ok (.aload_n 0, 1) := by decide +kernel
theorem dX1_add_49 : decode cX1_add 49 = .ok (.getfield 24, 3) := by decide +kernel
theorem dX1_add_52 : decode cX1_add 52 = .ok (.iload 5, 2) := by decide +kernel
theorem dX1_add_54 : decode cX1_add 54 = .ok (.iconst 0, 1) := by decide +kernel
theorem dX1_add_55 : decode cX1_add 55 = .ok (.iastore, 1) := by decide +kernel
theorem dX1_add_56 : decode cX1_add 56 = .ok (.aload_n 0, 1) := by decide +kernel
theorem dX1_add_57 : decode cX1_add 57 = .ok (.getfield 27, 3) := by decide +kernel
theorem dX1_add_60 : decode cX1_add 60 = .ok (.iload 5, 2) := by decide +kernel
theorem dX1_add_62 : decode cX1_add 62 = .ok (.iconst 0, 1) := by decide +kernel
theorem dX1_add_63 : decode cX1_add 63 = .ok (.iastore, 1) := by decide +kernel
theorem dX1_add_64 : decode cX1_add 64 = .ok (.aload_n 0, 1) := by decide +kernel
theorem dX1_add_65 : decode cX1_add 65 = .ok (.getfield 30, 3) := by decide +kernel
theorem dX1_add_68 : decode cX1_add 68 = .ok (.iload 5, 2) := by decide +kernel
theorem dX1_add_70 : decode cX1_add 70 = .ok (.iconst (-1), 1) := by decide +kernel
theorem dX1_add_71 : decode cX1_add 71 = .ok (.iastore, 1) := by decide +kernel
theorem dX1_add_72 : decode cX1_add 72 = .ok (.aload_n 0, 1) := by decide +kernel
theorem dX1_add_73 : decode cX1_add 73 = .ok (.getfield 33, 3) := by decide +kernel
theorem dX1_add_76 : decode cX1_add 76 = .ok (.iload 5, 2) := by decide +kernel
theorem dX1_add_78 : decode cX1_add 78 = .ok (.iconst 1, 1) := by decide +kernel
theorem dX1_add_79 : decode cX1_add 79 = .ok (.iastore, 1) := by decide +kernel
theorem dX1_add_80 : decode cX1_add 80 = .ok (.aload_n 0, 1) := by decide +kernel
theorem dX1_add_81 : decode cX1_add 81 = .ok (.getfield 36, 3) := by decide +kernel
theorem dX1_add_84 : decode cX1_add 84 = .ok (.iload 5, 2) := by decide +kernel
theorem dX1_add_86 : decode cX1_add 86 = .ok (.iconst (-1), 1) := by decide +kernel
theorem dX1_add_87 : decode cX1_add 87 = .ok (.iastore, 1) := by decide +kernel
theorem dX1_add_88 : decode cX1_add 88 = .ok (.aload_n 0, 1) := by decide +kernel
theorem dX1_add_89 : decode cX1_add 89 = .ok (.getfield 39, 3) := by decide +kernel
theorem dX1_add_92 : decode cX1_add 92 = .ok (.iload 5, 2) := by decide +kernel
theorem dX1_add_94 : decode cX1_add 94 = .ok (.iconst (-1), 1) := by decide +kernel
theorem dX1_add_95 : decode cX1_add 95 = .ok (.iastore, 1) := by decide +kernel
theorem dX1_add_96 : decode cX1_add 96 = .ok (.aload_n 0, 1) := by decide +kernel
theorem dX1_add_97 : decode cX1_add 97 = .ok (.getfield 42, 3) := by decide +kernel
theorem dX1_add_100 : decode cX1_add 100 = .ok (.iload 5, 2) := by decide +kernel
theorem dX1_add_102 : decode cX1_add 102 = .ok (.iconst 0, 1) := by decide +kernel
theorem dX1_add_103 : decode cX1_add 103 = .ok (.iastore, 1) := by decide +kernel
theorem dX1_add_104 : decode cX1_add 104 = .ok (.aload_n 0, 1) := by decide +kernel
theorem dX1_add_105 : decode cX1_add 105 = .ok (.iload 5, 2) := by decide +kernel
theorem dX1_add_107 : decode cX1_add 107 = .ok (.iconst 1, 1) := by decide +kernel
theorem dX1_add_108 : decode cX1_add 108 = .ok (.iadd, 1) := by decide +kernel
theorem dX1_add_109 : decode cX1_add 109 = .ok (.putfield 60, 3) := by decide +kernel
theorem dX1_add_112 : decode cX1_add 112 = .ok (.iload 5, 2) := by decide +kernel
theorem dX1_add_114 : decode cX1_add 114 = .ok (.ireturn, 1) := by decide +kernel
theorem dX1_changeSetting_0 : decode cX1_changeSetting 0 = .ok (.iload_n 2, 1) := by decide +kernel
theorem dX1_changeSetting_1 : decode cX1_changeSetting 1 = .ok (.ifCond .ne 10, 3) := by decide +kernel
theorem dX1_changeSetting_4 : decode cX1_changeSetting 4 = .ok (.aload_n 0, 1) := by decide +kernel
theorem dX1_changeSetting_5 : decode cX1_changeSetting 5 = .ok (.getfield 24, 3) := by decide +kernel
theorem dX1_changeSetting_8 : decode cX1_changeSetting 8 = .ok (.goto 7, 3) := by decide +kernel
theorem dX1_changeSetting_11 : decode cX1_changeSetting 11 = .ok (.aload_n 0, 1) := by decide +kernel
theorem dX1_changeSetting_12 : decode cX1_changeSetting 12 = .ok (.getfield 27, 3) := by decide +kernel
theorem dX1_changeSetting_15 : decode cX1_changeSetting 15 = .ok (.astore 4, 2) := by decide +kernel
theorem dX1_changeSetting_17 : decode cX1_changeSetting 17 = .ok (.aload 4, 2) := by decide +kernel
theorem dX1_changeSetting_19 : decode cX1_changeSetting 19 = .ok (.iload_n 1, 1) := by decide +kernel
theorem dX1_changeSetting_20 : decode cX1_changeSetting 20 = .ok (.iaload, 1) := by decide +kernel
theorem dX1_changeSetting_21 : decode cX1_changeSetting 21 = .ok (.istore 5, 2) := by decide +kernel
theorem dX1_changeSetting_23 : decode cX1_changeSetting 23 = .ok (.aload 4, 2) := by decide +kernel
theorem dX1_changeSetting_25 : decode cX1_changeSetting 25 = .ok (.iload_n 1, 1) := by decide +kernel
theorem dX1_changeSetting_26 : decode cX1_changeSetting 26 = .ok (.iload_n 3, 1) := by decide +kernel
theorem dX1_changeSetting_27 : decode cX1_changeSetting 27 = .ok (.iastore, 1) := by decide +kernel
theorem dX1_changeSetting_28 : decode cX1_changeSetting 28 = .ok (.iload 5, 2) := by decide +kernel
theorem dX1_changeSetting_30 : decode cX1_changeSetting 30 = .ok (.ireturn, 1) := by decide +kernel
set_option maxRecDepth 20000 in
theorem ggX1_changeLock_X1_unlock : GoodIn wsX1_changeLock wsX1_unlock := goodIn_r _ [6, 1, 7, 8, 9, 10, 11, 12, 13, 14, 15, 16, 17, 18, 19, 20, 21, 22, 23] (by decide +kernel) (by decide +kernel)
set_option maxRecDepth 20000 in
theorem gX1_changeLock_X1_unlock : GoodIn wsX1_changeLock (wsV RX1 68 RX1 yX1_unlock wsX1_unlock) := goodIn_app (goodIn_of _ (by decide +kernel)) ggX1_changeLock_X1_unlock
theorem dX1_changeLock_0 : decode cX1_changeLock 0 = .ok (.aload_n 0, 1) := by decide +kernel
theorem dX1_changeLock_1 : decode cX1_changeLock 1 = .ok (.getfield 30, 3) := by decide +kernel
theorem dX1_changeLock_4 : decode cX1_changeLock 4 = .ok (.iload_n 1, 1) := by decide +kernel
theorem dX1_changeLock_5 : decode cX1_changeLock 5 = .ok (.iaload, 1) := by decide +kernel
theorem dX1_changeLock_6 : decode cX1_changeLock 6 = .ok (.istore_n 3, 1) := by decide +kernel
theorem dX1_changeLock_7 : decode cX1_changeLock 7 = .ok (.aload_n 0, 1) := by decide +kernel
theorem dX1_changeLock_8 : decode cX1_changeLock 8 = .ok (.iload_n 1, 1) := by decide +kernel
theorem dX1_changeLock_9 : decode cX1_changeLock 9 = .ok (.invokevirtual 68, 3) := by decide +kernel
theorem dX1_changeLock_12 : decode cX1_changeLock 12 = .ok (.iload_n 2, 1) := by decide +kernel
theorem dX1_changeLock_13 : decode cX1_changeLock 13 = .ok (.iconst (-1), 1) := by decide +kernel
theorem dX1_changeLock_14 : decode cX1_changeLock 14 = .ok (.if_icmp .eq 22, 3) := by decide +kernel
theorem dX1_changeLock_17 : decode cX1_changeLock 17 = .ok (.aload_n 0, 1) := by decide +kernel
theorem dX1_changeLock_18 : decode cX1_changeLock 18 = .ok (.iload_n 2, 1) := by decide +kernel
theorem dX1_changeLock_19 : decode cX1_changeLock 19 = .ok (.invokevirtual 68, 3) := by decide +kernel
theorem dX1_changeLock_22 : decode cX1_changeLock 22 = .ok (.aload_n 0, 1) := by decide +kernel
theorem dX1_changeLock_23 : decode cX1_changeLock 23 = .ok (.getfield 30, 3) := by decide +kernel
theorem dX1_changeLock_26 : decode cX1_changeLock 26 = .ok (.iload_n 1, 1) := by decide +kernel
theorem dX1_changeLock_27 : decode cX1_changeLock 27 = .ok (.iload_n 2, 1) := by decide +kernel
theorem dX1_changeLock_28 : decode cX1_changeLock 28 = .ok (.iastore, 1) := by decide +kernel
theorem dX1_changeLock_29 : decode cX1_changeLock 29 = .ok (.aload_n 0, 1) := by decide +kernel
theorem dX1_changeLock_30 : decode cX1_changeLock 30 = .ok (.getfield 30, 3) := by decide +kernel
theorem dX1_changeLock_33 : decode cX1_changeLock 33 = .ok (.iload_n 2, 1) := by decide +kernel
theorem dX1_changeLock_34 : decode cX1_changeLock 34 = .ok (.iload_n 1, 1) := by decide +kernel
theorem dX1_changeLock_35 : decode cX1_changeLock 35 = .ok (.iastore, 1) := by decide +kernel
theorem dX1_changeLock_36 : decode cX1_changeLock 36 = .ok (.iload_n 3, 1) := by decide +kernel
theorem dX1_changeLock_37 : decode cX1_changeLock 37 = .ok (.ireturn, 1) := by decide +kernel
theorem dX1_unlock_0 : decode cX1_unlock 0 = .ok (.aload_n 0, 1) := by decide +kernel
theorem dX1_unlock_1 : decode cX1_unlock 1 = .ok (.getfield 30, 3) := by decide +kernel
theorem dX1_unlock_4 : decode cX1_unlock 4 = .ok (.iload_n 1, 1) := by decide +kernel
theorem dX1_unlock_5 : decode cX1_unlock 5 = .ok (.iaload, 1) := by decide +kernel
theorem dX1_unlock_6 : decode cX1_unlock 6 = .ok (.istore_n 2, 1) := by decide +kernel
theorem dX1_unlock_7 : decode cX1_unlock 7 = .ok (.iload_n 2, 1) := by decide +kernel
theorem dX1_unlock_8 : decode cX1_unlock 8 = .ok (.iconst (-1), 1) := by decide +kernel
theorem dX1_unlock_9 : decode cX1_unlock 9 = .ok (.if_icmp .eq 10, 3) := by decide +kernel
theorem dX1_unlock_12 : decode cX1_unlock 12 = .ok (.aload_n 0, 1) := by decide +kernel
theorem dX1_unlock_13 : decode cX1_unlock 13 = .ok (.getfield 30, 3) := by decide +kernel
theorem dX1_unlock_16 : decode cX1_unlock 16 = .ok (.iload_n 2, 1) := by decide +kernel
theorem dX1_unlock_17 : decode cX1_unlock 17 = .ok (.iconst (-1), 1) := by decide +kernel
theorem dX1_unlock_18 : decode cX1_unlock 18 = .ok (.iastore, 1) := by decide +kernel
theorem dX1_unlock_19 : decode cX1_unlock 19 = .ok (.aload_n 0, 1) := by decide +kernel
theorem dX1_unlock_20 : decode cX1_unlock 20 = .ok (.getfield 30, 3) := by decide +kernel
theorem dX1_unlock_23 : decode cX1_unlock 23 = .ok (.iload_n 1, 1) := by decide +kernel
theorem dX1_unlock_24 : decode cX1_unlock 24 = .ok (.iconst (-1), 1) := by decide +kernel
theorem dX1_unlock_25 : decode cX1_unlock 25 = .ok (.iastore, 1) := by decide +kernel
theorem dX1_unlock_26 : decode cX1_unlock 26 = .ok (.return_, 1) := by decide +kernel
theorem dX1_takeCopy_0 : decode cX1_takeCopy 0 = .ok (.iload_n 1, 1) := by decide +kernel
theorem dX1_takeCopy_1 : decode cX1_takeCopy 1 = .ok (.bipush 8, 2) := by decide +kernel
theorem dX1_takeCopy_3 : decode cX1_takeCopy 3 = .ok (.imul, 1) := by decide +kernel
theorem dX1_takeCopy_4 : decode cX1_takeCopy 4 = .ok (.istore_n 3, 1) := by decide +kernel
theorem dX1_takeCopy_5 : decode cX1_takeCopy 5 = .ok (.aload_n 0, 1) := by decide +kernel
theorem dX1_takeCopy_6 : decode cX1_takeCopy 6 = .ok (.getfield 51, 3) := by decide +kernel
theorem dX1_takeCopy_9 : decode cX1_takeCopy 9 = .ok (.iload_n 1, 1) := by decide +kernel
theorem dX1_takeCopy_10 : decode cX1_takeCopy 10 = .ok (.aload_n 2, 1) := by decide +kernel
theorem dX1_takeCopy_11 : decode cX1_takeCopy 11 = .ok (.getfield 72, 3) := by decide +kernel
theorem dX1_takeCopy_14 : decode cX1_takeCopy 14 = .ok (.iastore, 1) := by decide +kernel
theorem dX1_takeCopy_15 : decode cX1_takeCopy 15 = .ok (.iconst 0, 1) := by decide +kernel
theorem dX1_takeCopy_16 : decode cX1_takeCopy 16 = .ok (.istore 4, 2) := by decide +kernel
theorem dX1_takeCopy_18 : decode cX1_takeCopy 18 = .ok (.iload 4, 2) := by decide +kernel
theorem dX1_takeCopy_20 : decode cX1_takeCopy 20 = .ok (.aload_n 2, 1) := by decide +kernel
theorem dX1_takeCopy_21 : decode cX1_takeCopy 21 = .ok (.getfield 72, 3) := by decide +kernel
theorem dX1_takeCopy_24 : decode cX1_takeCopy 24 = .ok (.if_icmp .ge 41, 3) := by decide +kernel
theorem dX1_takeCopy_27 : decode cX1_takeCopy 27 = .ok (.aload_n 0, 1) := by decide +kernel
theorem dX1_takeCopy_28 : decode cX1_takeCopy 28 = .ok (.getfield 54, 3) := by decide +kernel
theorem dX1_takeCopy_31 : decode cX1_takeCopy 31 = .ok (.iload_n 3, 1) := by decide +kernel
theorem dX1_takeCopy_32 : decode cX1_takeCopy 32 = .ok (.iload 4, 2) := by decide +kernel
theorem dX1_takeCopy_34 : decode cX1_takeCopy 34 = .ok (.iadd, 1) := by decide +kernel
theorem dX1_takeCopy_35 : decode cX1_takeCopy 35 = .ok (.aload_n 2, 1) := by decide +kernel
theorem dX1_takeCopy_36 : decode cX1_takeCopy 36 = .ok (.getfield 75, 3) := by decide +kernel
theorem dX1_takeCopy_39 : decode cX1_takeCopy 39 = .ok (.iload 4, 2) := by decide +kernel
theorem dX1_takeCopy_41 : decode cX1_takeCopy 41 = .ok (.iaload, 1) := by decide +kernel
theorem dX1_takeCopy_42 : decode cX1_takeCopy 42 = .ok (.iastore, 1) := by decide +kernel
theorem dX1_takeCopy_43 : decode cX1_takeCopy 43 = .ok (.aload_n 0, 1) := by decide +kernel
theorem dX1_takeCopy_44 : decode cX1_takeCopy 44 = .ok (.getfield 57, 3) := by decide +kernel
theorem dX1_takeCopy_47 : decode cX1_takeCopy 47 = .ok (.iload_n 3, 1) := by decide +kernel
theorem dX1_takeCopy_48 : decode cX1_takeCopy 48 = .ok (.iload 4, 2) := by decide +kernel
theorem dX1_takeCopy_50 : decode cX1_takeCopy 50 = .ok (.iadd, 1) := by decide +kernel
theorem dX1_takeCopy_51 : decode cX1_takeCopy 51 = .ok (.aload_n 2, 1) := by decide +kernel
theorem dX1_takeCopy_52 : decode cX1_takeCopy 52 = .ok (.getfield 78, 3) := by decide +kernel
theorem dX1_takeCopy_55 : decode cX1_takeCopy 55 = .ok (.iload 4, 2) := by decide +kernel
theorem dX1_takeCopy_57 : decode cX1_takeCopy 57 = .ok (.iaload, 1) := by decide +kernel
theorem dX1_takeCopy_58 : decode cX1_takeCopy 58 = .ok (.iastore, 1) := by decide +kernel
theorem dX1_takeCopy_59 : decode cX1_takeCopy 59 = .ok (.iinc 4 1, 3) := by decide +kernel
theorem dX1_takeCopy_62 : decode cX1_takeCopy 62 = .ok (.goto (-44), 3) := by decide +kernel
theorem dX1_takeCopy_65 : decode cX1_takeCopy 65 = .ok (.return_, 1) := by decide +kernel
theorem dX1_isBarredByCopy_0 : decode cX1_isBarredByCopy 0 = .ok (.iload_n 2, 1) := by decide +kernel
theorem dX1_isBarredByCopy_1 : decode cX1_isBarredByCopy 1 = .ok (.aload_n 0, 1) := by decide +kernel
theorem dX1_isBarredByCopy_2 : decode cX1_isBarredByCopy 2 = .ok (.getfield 51, 3) := by decide +kernel
theorem dX1_isBarredByCopy_5 : decode cX1_isBarredByCopy 5 = .ok (.iload_n 1, 1) := by decide +kernel
theorem dX1_isBarredByCopy_6 : decode cX1_isBarredByCopy 6 = .ok (.iaload, 1) := by decide +kernel
theorem dX1_isBarredByCopy_7 : decode cX1_isBarredByCopy 7 = .ok (.if_icmp .ge 18, 3) := by decide +kernel
theorem dX1_isBarredByCopy_10 : decode cX1_isBarredByCopy 10 = .ok (.aload_n 0, 1) := by decide +kernel
theorem dX1_isBarredByCopy_11 : decode cX1_isBarredByCopy 11 = .ok (.getfield 54, 3) := by decide +kernel
theorem dX1_isBarredByCopy_14 : decode cX1_isBarredByCopy 14 = .ok (.iload_n 1, 1) := by decide +kernel
theorem dX1_isBarredByCopy_15 : decode cX1_isBarredByCopy 15 = .ok (.bipush 8, 2) := by decide +kernel
theorem dX1_isBarredByCopy_17 : decode cX1_isBarredByCopy 17 = .ok (.imul, 1) := by decide +kernel
theorem dX1_isBarredByCopy_18 : decode cX1_isBarredByCopy 18 = .ok (.iload_n 2, 1) := by decide +kernel
theorem dX1_isBarredByCopy_19 : decode cX1_isBarredByCopy 19 = .ok (.iadd, 1) := by decide +kernel
theorem dX1_isBarredByCopy_20 : decode cX1_isBarredByCopy 20 = .ok (.iaload, 1) := by decide +kernel
theorem dX1_isBarredByCopy_21 : decode cX1_isBarredByCopy 21 = .ok (.iconst 1, 1) := by decide +kernel
theorem dX1_isBarredByCopy_22 : decode cX1_isBarredByCopy 22 = .ok (.if_icmp .ne 7, 3) := by decide +kernel
theorem dX1_isBarredByCopy_25 : decode cX1_isBarredByCopy 25 = .ok (.iconst 1, 1) := by decide +kernel
theorem dX1_isBarredByCopy_26 : decode cX1_isBarredByCopy 26 = .ok (.goto 4, 3) := by decide +kernel
theorem dX1_isBarredByCopy_29 : decode cX1_isBarredByCopy 29 = .ok (.iconst 0, 1) := by decide +kernel
theorem dX1_isBarredByCopy_30 : decode cX1_isBarredByCopy 30 = .ok (.ireturn, 1) := by decide +kernel
theorem dX1_levelByCopy_0 : decode cX1_levelByCopy 0 = .ok (.aload_n 0, 1) := by decide +kernel
theorem dX1_levelByCopy_1 : decode cX1_levelByCopy 1 = .ok (.getfield 57, 3) := by decide +kernel
theorem dX1_levelByCopy_4 : decode cX1_levelByCopy 4 = .ok (.iload_n 1, 1) := by decide +kernel
theorem dX1_levelByCopy_5 : decode cX1_levelByCopy 5 = .ok (.bipush 8, 2) := by decide +kernel
theorem dX1_levelByCopy_7 : decode cX1_levelByCopy 7 = .ok (.imul, 1) := by decide +kernel
theorem dX1_levelByCopy_8 : decode cX1_levelByCopy 8 = .ok (.iload_n 2, 1) := by decide +kernel
theorem dX1_levelByCopy_9 : decode cX1_levelByCopy 9 = .ok (.iadd, 1) := by decide +kernel
theorem dX1_levelByCopy_10 : decode cX1_levelByCopy 10 = .ok (.iaload, 1) := by decide +kernel
theorem dX1_levelByCopy_11 : decode cX1_levelByCopy 11 = .ok (.ireturn, 1) := by decide +kernel
theorem dX1_addNote_0 : decode cX1_addNote 0 = .ok (.aload_n 0, 1) := by decide +kernel
theorem dX1_addNote_1 : decode cX1_addNote 1 = .ok (.getfield 42, 3) := by decide +kernel
theorem dX1_addNote_4 : decode cX1_addNote 4 = .ok (.iload_n 1, 1) := by decide +kernel
theorem dX1_addNote_5 : decode cX1_addNote 5 = .ok (.iaload, 1) := by decide +kernel
theorem dX1_addNote_6 : decode cX1_addNote 6 = .ok (.istore 4, 2) := by decide +kernel
theorem dX1_addNote_8 : decode cX1_addNote 8 = .ok (.iload 4, 2) := by decide +kernel
theorem dX1_addNote_10 : decode cX1_addNote 10 = .ok (.bipush 20, 2) := by decide +kernel
theorem dX1_addNote_12 : decode cX1_addNote 12 = .ok (.if_icmp .ge 39, 3) := by decide +kernel
theorem dX1_addNote_15 : decode cX1_addNote 15 = .ok (.aload_n 0, 1) := by decide +kernel
theorem dX1_addNote_16 : decode cX1_addNote 16 = .ok (.getfield 45, 3) := by decide +kernel
theorem dX1_addNote_19 : decode cX1_addNote 19 = .ok (.iload_n 1, 1) := by decide +kernel
theorem dX1_addNote_20 : decode cX1_addNote 20 = .ok (.bipush 20, 2) := by decide +kernel
theorem dX1_addNote_22 : decode cX1_addNote 22 = .ok (.imul, 1) := by decide +kernel
theorem dX1_addNote_23 : decode cX1_addNote 23 = .ok (.iload 4, 2) := by decide +kernel
theorem dX1_addNote_25 : decode cX1_addNote 25 = .ok (.iadd, 1) := by decide +kernel
theorem dX1_addNote_26 : decode cX1_addNote 26 = .ok (.iload_n 3, 1) := by decide +kernel
theorem dX1_addNote_27 : decode cX1_addNote 27 = .ok (.iastore, 1) := by decide +kernel
theorem dX1_addNote_28 : decode cX1_addNote 28 = .ok (.aload_n 0, 1) := by decide +kernel
theorem dX1_addNote_29 : decode cX1_addNote 29 = .ok (.getfield 48, 3) := by decide +kernel
theorem dX1_addNote_32 : decode cX1_addNote 32 = .ok (.iload_n 1, 1) := by decide +kernel
theorem dX1_addNote_33 : decode cX1_addNote 33 = .ok (.bipush 20, 2) := by decide +kernel
theorem dX1_addNote_35 : decode cX1_addNote 35 = .ok (.imul, 1) := by decide +kernel
theorem dX1_addNote_36 : decode cX1_addNote 36 = .ok (.iload 4, 2) := by decide +kernel
theorem dX1_addNote_38 : decode cX1_addNote 38 = .ok (.iadd, 1) := by decide +kernel
theorem dX1_addNote_39 : decode cX1_addNote 39 = .ok (.iload_n 2, 1) := by decide +kernel
theorem dX1_addNote_40 : decode cX1_addNote 40 = .ok (.iastore, 1) := by decide +kernel
theorem dX1_addNote_41 : decode cX1_addNote 41 = .ok (.aload_n 0, 1) := by decide +kernel
theorem dX1_addNote_42 : decode cX1_addNote 42 = .ok (.getfield 42, 3) := by decide +kernel
theorem dX1_addNote_45 : decode cX1_addNote 45 = .ok (.iload_n 1, 1) := by decide +kernel
theorem dX1_addNote_46 : decode cX1_addNote 46 = .ok (.iload 4, 2) := by decide +kernel
theorem dX1_addNote_48 : decode cX1_addNote 48 = .ok (.iconst 1, 1) := by decide +kernel
theorem dX1_addNote_49 : decode cX1_addNote 49 = .ok (.iadd, 1) := by decide +kernel
theorem dX1_addNote_50 : decode cX1_addNote 50 = .ok (.iastore, 1) := by decide +kernel
theorem dX1_addNote_51 : decode cX1_addNote 51 = .ok (.return_, 1) := by decide +kernel
theorem dX1_noteFact_0 : decode cX1_noteFact 0 = .ok (.iload_n 2, 1) := by decide +kernel
theorem dX1_noteFact_1 : decode cX1_noteFact 1 = .ok (.aload_n 0, 1) := by decide +kernel
theorem dX1_noteFact_2 : decode cX1_noteFact 2 = .ok (.getfield 42, 3) := by decide +kernel
theorem dX1_noteFact_5 : decode cX1_noteFact 5 = .ok (.iload_n 1, 1) := by decide +kernel
theorem dX1_noteFact_6 : decode cX1_noteFact 6 = .ok (.iaload, 1) := by decide +kernel
theorem dX1_noteFact_7 : decode cX1_noteFact 7 = .ok (.if_icmp .lt 5, 3) := by decide +kernel
theorem dX1_noteFact_10 : decode cX1_noteFact 10 = .ok (.iconst (-1), 1) := by decide +kernel
theorem dX1_noteFact_11 : decode cX1_noteFact 11 = .ok (.ireturn, 1) := by decide +kernel
theorem dX1_noteFact_12 : decode cX1_noteFact 12 = .ok (.iload_n 1, 1) := by decide +kernel
theorem dX1_noteFact_13 : decode cX1_noteFact 13 = .ok (.bipush 20, 2) := by decide +kernel
theorem dX1_noteFact_15 : decode cX1_noteFact 15 = .ok (.imul, 1) := by decide +kernel
theorem dX1_noteFact_16 : decode cX1_noteFact 16 = .ok (.iload_n 2, 1) := by decide +kernel
theorem dX1_noteFact_17 : decode cX1_noteFact 17 = .ok (.iadd, 1) := by decide +kernel
theorem dX1_noteFact_18 : decode cX1_noteFact 18 = .ok (.istore 4, 2) := by decide +kernel
theorem dX1_noteFact_20 : decode cX1_noteFact 20 = .ok (.iload_n 3, 1) := by decide +kernel
theorem dX1_noteFact_21 : decode cX1_noteFact 21 = .ok (.ifCond .ne 13, 3) := by decide +kernel
theorem dX1_noteFact_24 : decode cX1_noteFact 24 = .ok (.aload_n 0, 1) := by decide +kernel
theorem dX1_noteFact_25 : decode cX1_noteFact 25 = .ok (.getfield 45, 3) := by decide +kernel
theorem dX1_noteFact_28 : decode cX1_noteFact 28 = .ok (.iload 4, 2) := by decide +kernel
theorem dX1_noteFact_30 : decode cX1_noteFact 30 = .ok (.iaload, 1) := by decide +kernel
theorem dX1_noteFact_31 : decode cX1_noteFact 31 = .ok (.goto 10, 3) := by decide +kernel
theorem dX1_noteFact_34 : decode cX1_noteFact 34 = .ok (.aload_n 0, 1) := by decide +kernel
theorem dX1_noteFact_35 : decode cX1_noteFact 35 = .ok (.getfield 48, 3) := by decide +kernel
theorem dX1_noteFact_38 : decode cX1_noteFact 38 = .ok (.iload 4, 2) := by decide +kernel
theorem dX1_noteFact_40 : decode cX1_noteFact 40 = .ok (.iaload, 1) := by decide +kernel
theorem dX1_noteFact_41 : decode cX1_noteFact 41 = .ok (.ireturn, 1) := by decide +kernel
theorem dX1_anotherWaits_0 : decode cX1_anotherWaits 0 = .ok (.aload_n 0, 1) := by decide +kernel
theorem dX1_anotherWaits_1 : decode cX1_anotherWaits 1 = .ok (.getfield 39, 3) := by decide +kernel
theorem dX1_anotherWaits_4 : decode cX1_anotherWaits 4 = .ok (.iload_n 1, 1) := by decide +kernel
theorem dX1_anotherWaits_5 : decode cX1_anotherWaits 5 = .ok (.iaload, 1) := by decide +kernel
theorem dX1_anotherWaits_6 : decode cX1_anotherWaits 6 = .ok (.iconst (-1), 1) := by decide +kernel
theorem dX1_anotherWaits_7 : decode cX1_anotherWaits 7 = .ok (.if_icmp .eq 17, 3) := by decide +kernel
theorem dX1_anotherWaits_10 : decode cX1_anotherWaits 10 = .ok (.aload_n 0, 1) := by decide +kernel
theorem dX1_anotherWaits_11 : decode cX1_anotherWaits 11 = .ok (.getfield 39, 3) := by decide +kernel
theorem dX1_anotherWaits_14 : decode cX1_anotherWaits 14 = .ok (.iload_n 1, 1) := by decide +kernel
theorem dX1_anotherWaits_15 : decode cX1_anotherWaits 15 = .ok (.iaload, 1) := by decide +kernel
theorem dX1_anotherWaits_16 : decode cX1_anotherWaits 16 = .ok (.iload_n 2, 1) := by decide +kernel
theorem dX1_anotherWaits_17 : decode cX1_anotherWaits 17 = .ok (.if_icmp .eq 7, 3) := by decide +kernel
theorem dX1_anotherWaits_20 : decode cX1_anotherWaits 20 = .ok (.iconst 1, 1) := by decide +kernel
theorem dX1_anotherWaits_21 : decode cX1_anotherWaits 21 = .ok (.goto 4, 3) := by decide +kernel
theorem dX1_anotherWaits_24 : decode cX1_anotherWaits 24 = .ok (.iconst 0, 1) := by decide +kernel
theorem dX1_anotherWaits_25 : decode cX1_anotherWaits 25 = .ok (.ireturn, 1) := by decide +kernel
theorem dX1_startWaiting_0 : decode cX1_startWaiting 0 = .ok (.aload_n 0, 1) := by decide +kernel
theorem dX1_startWaiting_1 : decode cX1_startWaiting 1 = .ok (.getfield 39, 3) := by decide +kernel
theorem dX1_startWaiting_4 : decode cX1_startWaiting 4 = .ok (.iload_n 1, 1) := by decide +kernel
theorem dX1_startWaiting_5 : decode cX1_startWaiting 5 = .ok (.iload_n 2, 1) := by decide +kernel
theorem dX1_startWaiting_6 : decode cX1_startWaiting 6 = .ok (.iastore, 1) := by decide +kernel
theorem dX1_startWaiting_7 : decode cX1_startWaiting 7 = .ok (.return_, 1) := by decide +kernel
theorem dX1_endWaiting_0 : decode cX1_endWaiting 0 = .ok (.aload_n 0, 1) := by decide +kernel
theorem dX1_endWaiting_1 : decode cX1_endWaiting 1 = .ok (.getfield 27, 3) := by decide +kernel
theorem dX1_endWaiting_4 : decode cX1_endWaiting 4 = .ok (.iload_n 1, 1) := by decide +kernel
theorem dX1_endWaiting_5 : decode cX1_endWaiting 5 = .ok (.iaload, 1) := by decide +kernel
theorem dX1_endWaiting_6 : decode cX1_endWaiting 6 = .ok (.ifCond .ne 5, 3) := by decide +kernel
theorem dX1_endWaiting_9 : decode cX1_endWaiting 9 = .ok (.iconst (-1), 1) := by decide +kernel
theorem dX1_endWaiting_10 : decode cX1_endWaiting 10 = .ok (.ireturn, 1) := by decide +kernel
theorem dX1_endWaiting_11 : decode cX1_endWaiting 11 = .ok (.aload_n 0, 1) := by decide +kernel
theorem dX1_endWaiting_12 : decode cX1_endWaiting 12 = .ok (.getfield 39, 3) := by decide +kernel
theorem dX1_endWaiting_15 : decode cX1_endWaiting 15 = .ok (.iload_n 1, 1) := by decide +kernel
theorem dX1_endWaiting_16 : decode cX1_endWaiting 16 = .ok (.iaload, 1) := by decide +kernel
theorem dX1_endWaiting_17 : decode cX1_endWaiting 17 = .ok (.istore_n 2, 1) := by decide +kernel
theorem dX1_endWaiting_18 : decode cX1_endWaiting 18 = .ok (.aload_n 0, 1) := by decide +kernel
theorem dX1_endWaiting_19 : decode cX1_endWaiting 19 = .ok (.getfield 39, 3) := by decide +kernel
theorem dX1_endWaiting_22 : decode cX1_endWaiting 22 = .ok (.iload_n 1, 1) := by decide +kernel
theorem dX1_endWaiting_23 : decode cX1_endWaiting 23 = .ok (.iconst (-1), 1) := by decide +kernel
theorem dX1_endWaiting_24 : decode cX1_endWaiting 24 = .ok (.iastore, 1) := by decide +kernel
theorem dX1_endWaiting_25 : decode cX1_endWaiting 25 = .ok (.iload_n 2, 1) := by decide +kernel
theorem dX1_endWaiting_26 : decode cX1_endWaiting 26 = .ok (.ireturn, 1) := by decide +kernel
theorem dX1_endAllWaiting_0 : decode cX1_endAllWaiting 0 = .ok (.iconst 0, 1) := by decide +kernel
theorem dX1_endAllWaiting_1 : decode cX1_endAllWaiting 1 = .ok (.istore_n 1, 1) := by decide +kernel
theorem dX1_endAllWaiting_2 : decode cX1_endAllWaiting 2 = .ok (.iload_n 1, 1) := by decide +kernel
theorem dX1_endAllWaiting_3 : decode cX1_endAllWaiting 3 = .ok (.aload_n 0, 1) := by decide +kernel
theorem dX1_endAllWaiting_4 : decode cX1_endAllWaiting 4 = .ok (.getfield 60, 3) := by decide +kernel
theorem dX1_endAllWaiting_7 : decode cX1_endAllWaiting 7 = .ok (.if_icmp .ge 16, 3) := by decide +kernel
theorem dX1_endAllWaiting_10 : decode cX1_endAllWaiting 10 = .ok (.aload_n 0, 1) := by decide +kernel
theorem dX1_endAllWaiting_11 : decode cX1_endAllWaiting 11 = .ok (.getfield 39, 3) := by decide +kernel
theorem dX1_endAllWaiting_14 : decode cX1_endAllWaiting 14 = .ok (.iload_n 1, 1) := by decide +kernel
theorem dX1_endAllWaiting_15 : decode cX1_endAllWaiting 15 = .ok (.iconst (-1), 1) := by decide +kernel
theorem dX1_endAllWaiting_16 : decode cX1_endAllWaiting 16 = .ok (.iastore, 1) := by decide +kernel
theorem dX1_endAllWaiting_17 : decode cX1_endAllWaiting 17 = .ok (.iinc 1 1, 3) := by decide +kernel
theorem dX1_endAllWaiting_20 : decode cX1_endAllWaiting 20 = .ok (.goto (-18), 3) := by decide +kernel
theorem dX1_endAllWaiting_23 : decode cX1_endAllWaiting 23 = .ok (.return_, 1) := by decide +kernel
set_option maxRecDepth 20000 in
theorem ggX2_init_X1_init : GoodIn wsX2_init wsX1_init := goodIn_r _ [20, 21, 2, 3, 16, 22, 23, 24, 25, 26, 27, 28, 29, 30, 31, 32, 33, 34, 35, 36, 37, 54, 55, 56, 57, 58, 59, 60, 61, 62, 63, 64, 65, 66, 67, 68, 69, 70] (by decide +kernel) (by decide +kernel)
set_option maxRecDepth 20000 in
theorem gX2_init_X1_init : GoodIn wsX2_init (wsX1_init) := ggX2_init_X1_init
set_option maxRecDepth 20000 in
theorem ggX2_init_X0_init : GoodIn wsX2_init wsX0_init := goodIn_r _ [40, 41, 2, 3, 16, 42, 43, 44, 45, 46, 47, 79, 80, 81, 82, 83, 84, 85] (by decide +kernel) (by decide +kernel)
set_option maxRecDepth 20000 in
theorem gX2_init_X0_init : GoodIn wsX2_init (wsX0_init) := ggX2_init_X0_init
set_option maxRecDepth 20000 in
theorem ggX2_init_X5_init : GoodIn wsX2_init wsX5_init := goodIn_r _ [50, 51, 2, 3, 16, 52, 53, 86, 87, 88] (by decide +kernel) (by decide +kernel)
set_option maxRecDepth 20000 in
theorem gX2_init_X5_init : GoodIn wsX2_init (wsX5_init) := ggX2_init_X5_init
theorem dX2_init_0 : decode cX2_init 0 = .ok (.aload_n 0, 1) := by decide +kernel
theorem dX2_init_1 : decode cX2_init 1 = .ok (.invokespecial 3, 3) := by decide +kernel
theorem dX2_init_4 : decode cX2_init 4 = .ok (.aload_n 0, 1) := by decide +kernel
theorem dX2_init_5 : decode cX2_init 5 = .ok (.new 9, 3) := by decide +kernel
theorem dX2_init_8 : decode cX2_init 8 = .ok (.dup, 1) := by decide +kernel
theorem dX2_init_9 : decode cX2_init 9 = .ok (.invokespecial 11, 3) := by decide +kernel
theorem dX2_init_12 : decode cX2_init 12 = .ok (.putfield 12, 3) := by decide +kernel
theorem dX2_init_15 : decode cX2_init 15 = .ok (.aload_n 0, 1) := by decide +kernel
theorem dX2_init_16 : decode cX2_init 16 = .ok (.new 18, 3) := by decide +kernel
theorem dX2_init_19 : decode cX2_init 19 = .ok (.dup, 1) := by decide +kernel
theorem dX2_init_20 : decode cX2_init 20 = .ok (.invokespecial 20, 3) := by decide +kernel
theorem dX2_init_23 : decode cX2_init 23 = .ok (.putfield 21, 3) := by decide +kernel
theorem dX2_init_26 : decode cX2_init 26 = .ok (.aload_n 0, 1) := by decide +kernel
theorem dX2_init_27 : decode cX2_init 27 = .ok (.new 25, 3) := by decide +kernel
theorem dX2_init_30 : decode cX2_init 30 = .ok (.dup, 1) := by decide +kernel
theorem dX2_init_31 : decode cX2_init 31 = .ok (.invokespecial 27, 3) := by decide +kernel
theorem dX2_init_34 : decode cX2_init 34 = .ok (.putfield 28, 3) := by decide +kernel
theorem dX2_init_37 : decode cX2_init 37 = .ok (.aload_n 0, 1) := by decide +kernel
theorem dX2_init_38 : decode cX2_init 38 = .ok (.bipush 6, 2) := by decide +kernel
theorem dX2_init_40 : decode cX2_init 40 = .ok (.newarray .int, 2) := by decide +kernel
theorem dX2_init_42 : decode cX2_init 42 = .ok (.putfield 32, 3) := by decide +kernel
theorem dX2_init_45 : decode cX2_init 45 = .ok (.return_, 1) := by decide +kernel
set_option maxRecDepth 20000 in
theorem ggX2_copyFrom_X1_copyFrom : GoodIn wsX2_copyFrom wsX1_copyFrom := goodIn_r _ [13, 14, 15, 16, 17, 18, 19, 20, 21, 22, 23, 24, 25, 26, 27, 28, 29, 30, 31, 32, 33, 34, 35, 36, 37, 66, 67, 68, 69, 70, 71, 72, 73, 74, 75, 76, 77, 78, 79, 80, 81, 82] (by decide +kernel) (by decide +kernel)
set_option maxRecDepth 20000 in
theorem gX2_copyFrom_X1_copyFrom : GoodIn wsX2_copyFrom (wsV RX2 36 RX1 yX1_copyFrom wsX1_copyFrom) := goodIn_app (goodIn_of _ (by decide +kernel)) ggX2_copyFrom_X1_copyFrom
set_option maxRecDepth 20000 in
theorem ggX2_copyFrom_X0_copyFrom : GoodIn wsX2_copyFrom wsX0_copyFrom := goodIn_r _ [42, 43, 44, 45, 46, 47, 48, 49, 31, 32, 33, 34, 35, 36, 37, 83, 84, 85, 86, 87, 88, 89] (by decide +kernel) (by decide +kernel)
set_option maxRecDepth 20000 in
theorem gX2_copyFrom_X0_copyFrom : GoodIn wsX2_copyFrom (wsV RX2 40 RX0 yX0_copyFrom wsX0_copyFrom) := goodIn_app (goodIn_of _ (by decide +kernel)) ggX2_copyFrom_X0_copyFrom
set_option maxRecDepth 20000 in
theorem ggX2_copyFrom_X5_copyFrom : GoodIn wsX2_copyFrom wsX5_copyFrom := goodIn_r _ [54, 55, 56, 57, 31, 32, 33, 34, 35, 36, 37, 90, 91, 92] (by decide +kernel) (by decide +kernel)
set_option maxRecDepth 20000 in
theorem gX2_copyFrom_X5_copyFrom : GoodIn wsX2_copyFrom (wsV RX2 43 RX5 yX5_copyFrom wsX5_copyFrom) := goodIn_app (goodIn_of _ (by decide +kernel)) ggX2_copyFrom_X5_copyFrom
set_option maxRecDepth 20000 in
theorem ggX2_copyFrom_X6_copyRow : GoodIn wsX2_copyFrom wsX6_copyRow := goodIn_r _ [33, 34, 35, 36, 37] (by decide +kernel) (by decide +kernel)
set_option maxRecDepth 20000 in
theorem gX2_copyFrom_X6_copyRow_n46 : GoodIn wsX2_copyFrom (wsX6_copyRow) := ggX2_copyFrom_X6_copyRow
theorem dX2_copyFrom_0 : decode cX2_copyFrom 0 = .ok (.aload_n 0, 1) := by decide +kernel
theorem dX2_copyFrom_1 : decode cX2_copyFrom 1 = .ok (.getfield 12, 3) := by decide +kernel
theorem dX2_copyFrom_4 : decode cX2_copyFrom 4 = .ok (.aload_n 1, 1) := by decide +kernel
theorem dX2_copyFrom_5 : decode cX2_copyFrom 5 = .ok (.getfield 12, 3) := by decide +kernel
theorem dX2_copyFrom_8 : decode cX2_copyFrom 8 = .ok (.invokevirtual 36, 3) := by decide +kernel
theorem dX2_copyFrom_11 : decode cX2_copyFrom 11 = .ok (.aload_n 0, 1) := by decide +kernel
theorem dX2_copyFrom_12 : decode cX2_copyFrom 12 = .ok (.getfield 21, 3) := by decide +kernel
theorem dX2_copyFrom_15 : decode cX2_copyFrom 15 = .ok (.aload_n 1, 1) := by decide +kernel
theorem dX2_copyFrom_16 : decode cX2_copyFrom 16 = .ok (.getfield 21, 3) := by decide +kernel
theorem dX2_copyFrom_19 : decode cX2_copyFrom 19 = .ok (.invokevirtual 40, 3) := by decide +kernel
theorem dX2_copyFrom_22 : decode cX2_copyFrom 22 = .ok (.aload_n 0, 1) := by decide +kernel
theorem dX2_copyFrom_23 : decode cX2_copyFrom 23 = .ok (.getfield 28, 3) := by decide +kernel
theorem dX2_copyFrom_26 : decode cX2_copyFrom 26 = .ok (.aload_n 1, 1) := by decide +kernel
theorem dX2_copyFrom_27 : decode cX2_copyFrom 27 = .ok (.getfield 28, 3) := by decide +kernel
theorem dX2_copyFrom_30 : decode cX2_copyFrom 30 = .ok (.invokevirtual 43, 3) := by decide +kernel
theorem dX2_copyFrom_33 : decode cX2_copyFrom 33 = .ok (.aload_n 1, 1) := by decide +kernel
theorem dX2_copyFrom_34 : decode cX2_copyFrom 34 = .ok (.getfield 32, 3) := by decide +kernel
theorem dX2_copyFrom_37 : decode cX2_copyFrom 37 = .ok (.aload_n 0, 1) := by decide +kernel
theorem dX2_copyFrom_38 : decode cX2_copyFrom 38 = .ok (.getfield 32, 3) := by decide +kernel
theorem dX2_copyFrom_41 : decode cX2_copyFrom 41 = .ok (.bipush 6, 2) := by decide +kernel
theorem dX2_copyFrom_43 : decode cX2_copyFrom 43 = .ok (.invokestatic 46, 3) := by decide +kernel
theorem dX2_copyFrom_46 : decode cX2_copyFrom 46 = .ok (.aload_n 0, 1) := by decide +kernel
theorem dX2_copyFrom_47 : decode cX2_copyFrom 47 = .ok (.aload_n 1, 1) := by decide +kernel
theorem dX2_copyFrom_48 : decode cX2_copyFrom 48 = .ok (.getfield 50, 3) := by decide +kernel
theorem dX2_copyFrom_51 : decode cX2_copyFrom 51 = .ok (.putfield 50, 3) := by decide +kernel
theorem dX2_copyFrom_54 : decode cX2_copyFrom 54 = .ok (.aload_n 0, 1) := by decide +kernel
theorem dX2_copyFrom_55 : decode cX2_copyFrom 55 = .ok (.aload_n 1, 1) := by decide +kernel
theorem dX2_copyFrom_56 : decode cX2_copyFrom 56 = .ok (.getfield 54, 3) := by decide +kernel
theorem dX2_copyFrom_59 : decode cX2_copyFrom 59 = .ok (.putfield 54, 3) := by decide +kernel
theorem dX2_copyFrom_62 : decode cX2_copyFrom 62 = .ok (.aload_n 0, 1) := by decide +kernel
theorem dX2_copyFrom_63 : decode cX2_copyFrom 63 = .ok (.aload_n 1, 1) := by decide +kernel
theorem dX2_copyFrom_64 : decode cX2_copyFrom 64 = .ok (.getfield 57, 3) := by decide +kernel
theorem dX2_copyFrom_67 : decode cX2_copyFrom 67 = .ok (.putfield 57, 3) := by decide +kernel
theorem dX2_copyFrom_70 : decode cX2_copyFrom 70 = .ok (.aload_n 0, 1) := by decide +kernel
theorem dX2_copyFrom_71 : decode cX2_copyFrom 71 = .ok (.aload_n 1, 1) := by decide +kernel
theorem dX2_copyFrom_72 : decode cX2_copyFrom 72 = .ok (.getfield 60, 3) := by decide +kernel
theorem dX2_copyFrom_75 : decode cX2_copyFrom 75 = .ok (.putfield 60, 3) := by decide +kernel
theorem dX2_copyFrom_78 : decode cX2_copyFrom 78 = .ok (.return_, 1) := by decide +kernel
set_option maxRecDepth 20000 in
theorem ggX2_hasDoor_X6_isBelow : GoodIn wsX2_hasDoor wsX6_isBelow := goodIn_r _ [5] (by decide +kernel) (by decide +kernel)
set_option maxRecDepth 20000 in
theorem gX2_hasDoor_X6_isBelow_n66 : GoodIn wsX2_hasDoor (wsX6_isBelow) := ggX2_hasDoor_X6_isBelow
theorem dX2_hasDoor_0 : decode cX2_hasDoor 0 = .ok (.iload_n 1, 1) := by decide +kernel
theorem dX2_hasDoor_1 : decode cX2_hasDoor 1 = .ok (.aload_n 0, 1) := by decide +kernel
theorem dX2_hasDoor_2 : decode cX2_hasDoor 2 = .ok (.getfield 12, 3) := by decide +kernel
theorem dX2_hasDoor_5 : decode cX2_hasDoor 5 = .ok (.getfield 63, 3) := by decide +kernel
theorem dX2_hasDoor_8 : decode cX2_hasDoor 8 = .ok (.invokestatic 66, 3) := by decide +kernel
theorem dX2_hasDoor_11 : decode cX2_hasDoor 11 = .ok (.ireturn, 1) := by decide +kernel
set_option maxRecDepth 20000 in
theorem ggX2_hasBadge_X6_isBelow : GoodIn wsX2_hasBadge wsX6_isBelow := goodIn_r _ [5] (by decide +kernel) (by decide +kernel)
set_option maxRecDepth 20000 in
theorem gX2_hasBadge_X6_isBelow_n66 : GoodIn wsX2_hasBadge (wsX6_isBelow) := ggX2_hasBadge_X6_isBelow
theorem dX2_hasBadge_0 : decode cX2_hasBadge 0 = .ok (.iload_n 1, 1) := by decide +kernel
theorem dX2_hasBadge_1 : decode cX2_hasBadge 1 = .ok (.aload_n 0, 1) := by decide +kernel
theorem dX2_hasBadge_2 : decode cX2_hasBadge 2 = .ok (.getfield 21, 3) := by decide +kernel
theorem dX2_hasBadge_5 : decode cX2_hasBadge 5 = .ok (.getfield 70, 3) := by decide +kernel
theorem dX2_hasBadge_8 : decode cX2_hasBadge 8 = .ok (.invokestatic 66, 3) := by decide +kernel
theorem dX2_hasBadge_11 : decode cX2_hasBadge 11 = .ok (.ireturn, 1) := by decide +kernel
set_option maxRecDepth 20000 in
theorem ggX2_refusesDoor_X6_isArea : GoodIn wsX2_refusesDoor wsX6_isArea := goodIn_r _ [5, 6, 7, 4, 8] (by decide +kernel) (by decide +kernel)
set_option maxRecDepth 20000 in
theorem gX2_refusesDoor_X6_isArea_n71 : GoodIn wsX2_refusesDoor (wsX6_isArea) := ggX2_refusesDoor_X6_isArea
set_option maxRecDepth 20000 in
theorem ggX2_refusesDoor_X6_isLevel : GoodIn wsX2_refusesDoor wsX6_isLevel := goodIn_r _ [10] (by decide +kernel) (by decide +kernel)
set_option maxRecDepth 20000 in
theorem gX2_refusesDoor_X6_isLevel_n75 : GoodIn wsX2_refusesDoor (wsX6_isLevel) := ggX2_refusesDoor_X6_isLevel
theorem dX2_refusesDoor_0 : decode cX2_refusesDoor 0 = .ok (.iload_n 1, 1) := by decide +kernel
theorem dX2_refusesDoor_1 : decode cX2_refusesDoor 1 = .ok (.invokestatic 71, 3) := by decide +kernel
theorem dX2_refusesDoor_4 : decode cX2_refusesDoor 4 = .ok (.ifCond .eq 30, 3) := by decide +kernel
theorem dX2_refusesDoor_7 : decode cX2_refusesDoor 7 = .ok (.iload_n 2, 1) := by decide +kernel
theorem dX2_refusesDoor_8 : decode cX2_refusesDoor 8 = .ok (.invokestatic 71, 3) := by decide +kernel
theorem dX2_refusesDoor_11 : decode cX2_refusesDoor 11 = .ok (.ifCond .eq 23, 3) := by decide +kernel
theorem dX2_refusesDoor_14 : decode cX2_refusesDoor 14 = .ok (.iload_n 1, 1) := by decide +kernel
theorem dX2_refusesDoor_15 : decode cX2_refusesDoor 15 = .ok (.iload_n 2, 1) := by decide +kernel
theorem dX2_refusesDoor_16 : decode cX2_refusesDoor 16 = .ok (.if_icmp .eq 18, 3) := by decide +kernel
theorem dX2_refusesDoor_19 : decode cX2_refusesDoor 19 = .ok (.iload_n 3, 1) := by decide +kernel
theorem dX2_refusesDoor_20 : decode cX2_refusesDoor 20 = .ok (.invokestatic 75, 3) := by decide +kernel
theorem dX2_refusesDoor_23 : decode cX2_refusesDoor 23 = .ok (.ifCond .eq 11, 3) := by decide +kernel
theorem dX2_refusesDoor_26 : decode cX2_refusesDoor 26 = .ok (.iload 4, 2) := by decide +kernel
theorem dX2_refusesDoor_28 : decode cX2_refusesDoor 28 = .ok (.invokestatic 75, 3) := by decide +kernel
theorem dX2_refusesDoor_31 : decode cX2_refusesDoor 31 = .ok (.ifCond .ne 6, 3) := by decide +kernel
theorem dX2_refusesDoor_34 : decode cX2_refusesDoor 34 = .ok (.bipush (-2), 2) := by decide +kernel
theorem dX2_refusesDoor_36 : decode cX2_refusesDoor 36 = .ok (.ireturn, 1) := by decide +kernel
theorem dX2_refusesDoor_37 : decode cX2_refusesDoor 37 = .ok (.aload_n 0, 1) := by decide +kernel
theorem dX2_refusesDoor_38 : decode cX2_refusesDoor 38 = .ok (.getfield 12, 3) := by decide +kernel
theorem dX2_refusesDoor_41 : decode cX2_refusesDoor 41 = .ok (.getfield 63, 3) := by decide +kernel
theorem dX2_refusesDoor_44 : decode cX2_refusesDoor 44 = .ok (.bipush 8, 2) := by decide +kernel
theorem dX2_refusesDoor_46 : decode cX2_refusesDoor 46 = .ok (.if_icmp .lt 8, 3) := by decide +kernel
theorem dX2_refusesDoor_49 : decode cX2_refusesDoor 49 = .ok (.bipush (-4), 2) := by decide +kernel
theorem dX2_refusesDoor_51 : decode cX2_refusesDoor 51 = .ok (.goto 4, 3) := by decide +kernel
theorem dX2_refusesDoor_54 : decode cX2_refusesDoor 54 = .ok (.iconst 0, 1) := by decide +kernel
theorem dX2_refusesDoor_55 : decode cX2_refusesDoor 55 = .ok (.ireturn, 1) := by decide +kernel
set_option maxRecDepth 20000 in
theorem ggX2_refusesBadge_X6_isLevel : GoodIn wsX2_refusesBadge wsX6_isLevel := goodIn_r _ [5] (by decide +kernel) (by decide +kernel)
set_option maxRecDepth 20000 in
theorem gX2_refusesBadge_X6_isLevel_n75 : GoodIn wsX2_refusesBadge (wsX6_isLevel) := ggX2_refusesBadge_X6_isLevel
theorem dX2_refusesBadge_0 : decode cX2_refusesBadge 0 = .ok (.iload_n 1, 1) := by decide +kernel
theorem dX2_refusesBadge_1 : decode cX2_refusesBadge 1 = .ok (.invokestatic 75, 3) := by decide +kernel
theorem dX2_refusesBadge_4 : decode cX2_refusesBadge 4 = .ok (.ifCond .ne 6, 3) := by decide +kernel
theorem dX2_refusesBadge_7 : decode cX2_refusesBadge 7 = .ok (.bipush (-2), 2) := by decide +kernel
theorem dX2_refusesBadge_9 : decode cX2_refusesBadge 9 = .ok (.ireturn, 1) := by decide +kernel
theorem dX2_refusesBadge_10 : decode cX2_refusesBadge 10 = .ok (.aload_n 0, 1) := by decide +kernel
theorem dX2_refusesBadge_11 : decode cX2_refusesBadge 11 = .ok (.getfield 21, 3) := by decide +kernel
theorem dX2_refusesBadge_14 : decode cX2_refusesBadge 14 = .ok (.getfield 70, 3) := by decide +kernel
theorem dX2_refusesBadge_17 : decode cX2_refusesBadge 17 = .ok (.bipush 8, 2) := by decide +kernel
theorem dX2_refusesBadge_19 : decode cX2_refusesBadge 19 = .ok (.if_icmp .lt 8, 3) := by decide +kernel
theorem dX2_refusesBadge_22 : decode cX2_refusesBadge 22 = .ok (.bipush (-4), 2) := by decide +kernel
theorem dX2_refusesBadge_24 : decode cX2_refusesBadge 24 = .ok (.goto 4, 3) := by decide +kernel
theorem dX2_refusesBadge_27 : decode cX2_refusesBadge 27 = .ok (.iconst 0, 1) := by decide +kernel
theorem dX2_refusesBadge_28 : decode cX2_refusesBadge 28 = .ok (.ireturn, 1) := by decide +kernel
set_option maxRecDepth 20000 in
theorem ggX2_refusesBar_X2_hasBadge : GoodIn wsX2_refusesBar wsX2_hasBadge := goodIn_r _ [5, 6, 7, 8, 9, 10, 13, 14, 15, 16, 17, 18, 19, 20, 21, 22, 23, 24, 25, 26, 27] (by decide +kernel) (by decide +kernel)
set_option maxRecDepth 20000 in
theorem gX2_refusesBar_X2_hasBadge : GoodIn wsX2_refusesBar (wsV RX2 78 RX2 yX2_hasBadge wsX2_hasBadge) := goodIn_app (goodIn_of _ (by decide +kernel)) ggX2_refusesBar_X2_hasBadge
set_option maxRecDepth 20000 in
theorem ggX2_refusesBar_X6_isFlag : GoodIn wsX2_refusesBar wsX6_isFlag := goodIn_r _ [12] (by decide +kernel) (by decide +kernel)
set_option maxRecDepth 20000 in
theorem gX2_refusesBar_X6_isFlag_n81 : GoodIn wsX2_refusesBar (wsX6_isFlag) := ggX2_refusesBar_X6_isFlag
theorem dX2_refusesBar_0 : decode cX2_refusesBar 0 = .ok (.aload_n 0, 1) := by decide +kernel
theorem dX2_refusesBar_1 : decode cX2_refusesBar 1 = .ok (.iload_n 1, 1) := by decide +kernel
theorem dX2_refusesBar_2 : decode cX2_refusesBar 2 = .ok (.invokevirtual 78, 3) := by decide +kernel
theorem dX2_refusesBar_5 : decode cX2_refusesBar 5 = .ok (.ifCond .eq 14, 3) := by decide +kernel
theorem dX2_refusesBar_8 : decode cX2_refusesBar 8 = .ok (.iload_n 2, 1) := by decide +kernel
theorem dX2_refusesBar_9 : decode cX2_refusesBar 9 = .ok (.invokestatic 81, 3) := by decide +kernel
theorem dX2_refusesBar_12 : decode cX2_refusesBar 12 = .ok (.ifCond .eq 7, 3) := by decide +kernel
theorem dX2_refusesBar_15 : decode cX2_refusesBar 15 = .ok (.iconst 0, 1) := by decide +kernel
theorem dX2_refusesBar_16 : decode cX2_refusesBar 16 = .ok (.goto 5, 3) := by decide +kernel
theorem dX2_refusesBar_19 : decode cX2_refusesBar 19 = .ok (.bipush (-2), 2) := by decide +kernel
theorem dX2_refusesBar_21 : decode cX2_refusesBar 21 = .ok (.ireturn, 1) := by decide +kernel
set_option maxRecDepth 20000 in
theorem ggX2_refusesOnline_X2_hasDoor : GoodIn wsX2_refusesOnline wsX2_hasDoor := goodIn_r _ [7, 1, 8, 9, 10, 11, 14, 15, 16, 17, 18, 19, 20, 21, 22, 23, 24, 25, 26, 27, 28, 29, 30, 31, 32, 33, 34, 35, 36, 37, 38] (by decide +kernel) (by decide +kernel)
set_option maxRecDepth 20000 in
theorem gX2_refusesOnline_X2_hasDoor : GoodIn wsX2_refusesOnline (wsV RX2 84 RX2 yX2_hasDoor wsX2_hasDoor) := goodIn_app (goodIn_of _ (by decide +kernel)) ggX2_refusesOnline_X2_hasDoor
set_option maxRecDepth 20000 in
theorem ggX2_refusesOnline_X6_isFlag : GoodIn wsX2_refusesOnline wsX6_isFlag := goodIn_r _ [13] (by decide +kernel) (by decide +kernel)
set_option maxRecDepth 20000 in
theorem gX2_refusesOnline_X6_isFlag_n81 : GoodIn wsX2_refusesOnline (wsX6_isFlag) := ggX2_refusesOnline_X6_isFlag
theorem dX2_refusesOnline_0 : decode cX2_refusesOnline 0 = .ok (.aload_n 0, 1) := by decide +kernel
theorem dX2_refusesOnline_1 : decode cX2_refusesOnline 1 = .ok (.iload_n 1, 1) := by decide +kernel
theorem dX2_refusesOnline_2 : decode cX2_refusesOnline 2 = .ok (.invokevirtual 84, 3) := by decide +kernel
theorem dX2_refusesOnline_5 : decode cX2_refusesOnline 5 = .ok (.ifCond .eq 10, 3) := by decide +kernel
theorem dX2_refusesOnline_8 : decode cX2_refusesOnline 8 = .ok (.iload_n 2, 1) := by decide +kernel
theorem dX2_refusesOnline_9 : decode cX2_refusesOnline 9 = .ok (.invokestatic 81, 3) := by decide +kernel
theorem dX2_refusesOnline_12 : decode cX2_refusesOnline 12 = .ok (.ifCond .ne 6, 3) := by decide +kernel
theorem dX2_refusesOnline_15 : decode cX2_refusesOnline 15 = .ok (.bipush (-2), 2) := by decide +kernel
theorem dX2_refusesOnline_17 : decode cX2_refusesOnline 17 = .ok (.ireturn, 1) := by decide +kernel
theorem dX2_refusesOnline_18 : decode cX2_refusesOnline 18 = .ok (.aload_n 0, 1) := by decide +kernel
theorem dX2_refusesOnline_19 : decode cX2_refusesOnline 19 = .ok (.getfield 12, 3) := by decide +kernel
theorem dX2_refusesOnline_22 : decode cX2_refusesOnline 22 = .ok (.getfield 87, 3) := by decide +kernel
theorem dX2_refusesOnline_25 : decode cX2_refusesOnline 25 = .ok (.iload_n 1, 1) := by decide +kernel
theorem dX2_refusesOnline_26 : decode cX2_refusesOnline 26 = .ok (.iaload, 1) := by decide +kernel
theorem dX2_refusesOnline_27 : decode cX2_refusesOnline 27 = .ok (.iload_n 2, 1) := by decide +kernel
theorem dX2_refusesOnline_28 : decode cX2_refusesOnline 28 = .ok (.if_icmp .ne 8, 3) := by decide +kernel
theorem dX2_refusesOnline_31 : decode cX2_refusesOnline 31 = .ok (.bipush (-3), 2) := by decide +kernel
theorem dX2_refusesOnline_33 : decode cX2_refusesOnline 33 = .ok (.goto 4, 3) := by decide +kernel
theorem dX2_refusesOnline_36 : decode cX2_refusesOnline 36 = .ok (.iconst 0, 1) := by decide +kernel
theorem dX2_refusesOnline_37 : decode cX2_refusesOnline 37 = .ok (.ireturn, 1) := by decide +kernel
set_option maxRecDepth 20000 in
theorem ggX2_refusesAsk_X2_hasBadge : GoodIn wsX2_refusesAsk wsX2_hasBadge := goodIn_r _ [5, 6, 7, 8, 9, 10, 19, 20, 21, 22, 23, 24, 25, 26, 27, 28, 29, 30, 31, 32, 33] (by decide +kernel) (by decide +kernel)
set_option maxRecDepth 20000 in
theorem gX2_refusesAsk_X2_hasBadge : GoodIn wsX2_refusesAsk (wsV RX2 78 RX2 yX2_hasBadge wsX2_hasBadge) := goodIn_app (goodIn_of _ (by decide +kernel)) ggX2_refusesAsk_X2_hasBadge
set_option maxRecDepth 20000 in
theorem ggX2_refusesAsk_X2_hasDoor : GoodIn wsX2_refusesAsk wsX2_hasDoor := goodIn_r _ [14, 15, 16, 8, 9, 10, 19, 20, 21, 22, 23, 24, 25, 26, 34, 35, 36, 37, 38, 39, 40, 41, 42, 43, 44, 45, 46, 47, 48, 49, 50] (by decide +kernel) (by decide +kernel)
set_option maxRecDepth 20000 in
theorem gX2_refusesAsk_X2_hasDoor : GoodIn wsX2_refusesAsk (wsV RX2 84 RX2 yX2_hasDoor wsX2_hasDoor) := goodIn_app (goodIn_of _ (by decide +kernel)) ggX2_refusesAsk_X2_hasDoor
set_option maxRecDepth 20000 in
theorem ggX2_refusesAsk_X6_isFlag : GoodIn wsX2_refusesAsk wsX6_isFlag := goodIn_r _ [18] (by decide +kernel) (by decide +kernel)
set_option maxRecDepth 20000 in
theorem gX2_refusesAsk_X6_isFlag_n81 : GoodIn wsX2_refusesAsk (wsX6_isFlag) := ggX2_refusesAsk_X6_isFlag
theorem dX2_refusesAsk_0 : decode cX2_refusesAsk 0 = .ok (.aload_n 0, 1) := by decide +kernel
theorem dX2_refusesAsk_1 : decode cX2_refusesAsk 1 = .ok (.iload_n 1, 1) := by decide +kernel
theorem dX2_refusesAsk_2 : decode cX2_refusesAsk 2 = .ok (.invokevirtual 78, 3) := by decide +kernel
theorem dX2_refusesAsk_5 : decode cX2_refusesAsk 5 = .ok (.ifCond .eq 22, 3) := by decide +kernel
theorem dX2_refusesAsk_8 : decode cX2_refusesAsk 8 = .ok (.aload_n 0, 1) := by decide +kernel
theorem dX2_refusesAsk_9 : decode cX2_refusesAsk 9 = .ok (.iload_n 2, 1) := by decide +kernel
theorem dX2_refusesAsk_10 : decode cX2_refusesAsk 10 = .ok (.invokevirtual 84, 3) := by decide +kernel
theorem dX2_refusesAsk_13 : decode cX2_refusesAsk 13 = .ok (.ifCond .eq 14, 3) := by decide +kernel
theorem dX2_refusesAsk_16 : decode cX2_refusesAsk 16 = .ok (.iload_n 3, 1) := by decide +kernel
theorem dX2_refusesAsk_17 : decode cX2_refusesAsk 17 = .ok (.invokestatic 81, 3) := by decide +kernel
theorem dX2_refusesAsk_20 : decode cX2_refusesAsk 20 = .ok (.ifCond .eq 7, 3) := by decide +kernel
theorem dX2_refusesAsk_23 : decode cX2_refusesAsk 23 = .ok (.iconst 0, 1) := by decide +kernel
theorem dX2_refusesAsk_24 : decode cX2_refusesAsk 24 = .ok (.goto 5, 3) := by decide +kernel
theorem dX2_refusesAsk_27 : decode cX2_refusesAsk 27 = .ok (.bipush (-2), 2) := by decide +kernel
theorem dX2_refusesAsk_29 : decode cX2_refusesAsk 29 = .ok (.ireturn, 1) := by decide +kernel
theorem dX2_refusesWait_0 : decode cX2_refusesWait 0 = .ok (.iload_n 1, 1) := by decide +kernel
theorem dX2_refusesWait_1 : decode cX2_refusesWait 1 = .ok (.iconst 1, 1) := by decide +kernel
theorem dX2_refusesWait_2 : decode cX2_refusesWait 2 = .ok (.if_icmp .lt 13, 3) := by decide +kernel
theorem dX2_refusesWait_5 : decode cX2_refusesWait 5 = .ok (.iload_n 1, 1) := by decide +kernel
theorem dX2_refusesWait_6 : decode cX2_refusesWait 6 = .ok (.bipush 99, 2) := by decide +kernel
theorem dX2_refusesWait_8 : decode cX2_refusesWait 8 = .ok (.if_icmp .gt 7, 3) := by decide +kernel
theorem dX2_refusesWait_11 : decode cX2_refusesWait 11 = .ok (.iconst 0, 1) := by decide +kernel
theorem dX2_refusesWait_12 : decode cX2_refusesWait 12 = .ok (.goto 5, 3) := by decide +kernel
theorem dX2_refusesWait_15 : decode cX2_refusesWait 15 = .ok (.bipush (-2), 2) := by decide +kernel
theorem dX2_refusesWait_17 : decode cX2_refusesWait 17 = .ok (.ireturn, 1) := by decide +kernel
theorem dX2_hour_0 : decode cX2_hour 0 = .ok (.aload_n 0, 1) := by decide +kernel
theorem dX2_hour_1 : decode cX2_hour 1 = .ok (.getfield 50, 3) := by decide +kernel
theorem dX2_hour_4 : decode cX2_hour 4 = .ok (.bipush 24, 2) := by decide +kernel
theorem dX2_hour_6 : decode cX2_hour 6 = .ok (.irem, 1) := by decide +kernel
theorem dX2_hour_7 : decode cX2_hour 7 = .ok (.ireturn, 1) := by decide +kernel
set_option maxRecDepth 20000 in
theorem ggX2_letTimeGoBy_X1_endAllWaiting : GoodIn wsX2_letTimeGoBy wsX1_endAllWaiting := goodIn_r _ [7, 8, 9, 23, 24, 25, 26, 27, 28, 29, 30, 31, 32, 33, 34, 35, 36, 37, 38, 39] (by decide +kernel) (by decide +kernel)
set_option maxRecDepth 20000 in
theorem gX2_letTimeGoBy_X1_endAllWaiting : GoodIn wsX2_letTimeGoBy (wsV RX2 90 RX1 yX1_endAllWaiting wsX1_endAllWaiting) := goodIn_app (goodIn_of _ (by decide +kernel)) ggX2_letTimeGoBy_X1_endAllWaiting
set_option maxRecDepth 20000 in
theorem ggX2_letTimeGoBy_X2_hour : GoodIn wsX2_letTimeGoBy wsX2_hour := goodIn_r _ [14, 1, 15, 16, 17, 18, 19, 20, 21, 22] (by decide +kernel) (by decide +kernel)
set_option maxRecDepth 20000 in
theorem gX2_letTimeGoBy_X2_hour : GoodIn wsX2_letTimeGoBy (wsV RX2 93 RX2 yX2_hour wsX2_hour) := goodIn_app (goodIn_of _ (by decide +kernel)) ggX2_letTimeGoBy_X2_hour
theorem dX2_letTimeGoBy_0 : decode cX2_letTimeGoBy 0 = .ok (.aload_n 0, 1) := by decide +kernel
theorem dX2_letTimeGoBy_1 : decode cX2_letTimeGoBy 1 = .ok (.dup, 1) := by decide +kernel
theorem dX2_letTimeGoBy_2 : decode cX2_letTimeGoBy 2 = .ok (.getfield 50, 3) := by decide +kernel
theorem dX2_letTimeGoBy_5 : decode cX2_letTimeGoBy 5 = .ok (.iload_n 1, 1) := by decide +kernel
theorem dX2_letTimeGoBy_6 : decode cX2_letTimeGoBy 6 = .ok (.iadd, 1) := by decide +kernel
theorem dX2_letTimeGoBy_7 : decode cX2_letTimeGoBy 7 = .ok (.putfield 50, 3) := by decide +kernel
theorem dX2_letTimeGoBy_10 : decode cX2_letTimeGoBy 10 = .ok (.aload_n 0, 1) := by decide +kernel
theorem dX2_letTimeGoBy_11 : decode cX2_letTimeGoBy 11 = .ok (.getfield 12, 3) := by decide +kernel
theorem dX2_letTimeGoBy_14 : decode cX2_letTimeGoBy 14 = .ok (.invokevirtual 90, 3) := by decide +kernel
theorem dX2_letTimeGoBy_17 : decode cX2_letTimeGoBy 17 = .ok (.aload_n 0, 1) := by decide +kernel
theorem dX2_letTimeGoBy_18 : decode cX2_letTimeGoBy 18 = .ok (.invokevirtual 93, 3) := by decide +kernel
theorem dX2_letTimeGoBy_21 : decode cX2_letTimeGoBy 21 = .ok (.ireturn, 1) := by decide +kernel
theorem dX2_isOpen_0 : decode cX2_isOpen 0 = .ok (.aload_n 0, 1) := by decide +kernel
theorem dX2_isOpen_1 : decode cX2_isOpen 1 = .ok (.getfield 12, 3) := by decide +kernel
theorem dX2_isOpen_4 : decode cX2_isOpen 4 = .ok (.getfield 97, 3) := by decide +kernel
theorem dX2_isOpen_7 : decode cX2_isOpen 7 = .ok (.iload_n 1, 1) := by decide +kernel
theorem dX2_isOpen_8 : decode cX2_isOpen 8 = .ok (.iaload, 1) := by decide +kernel
theorem dX2_isOpen_9 : decode cX2_isOpen 9 = .ok (.aload_n 0, 1) := by decide +kernel
theorem dX2_isOpen_10 : decode cX2_isOpen 10 = .ok (.getfield 50, 3) := by decide +kernel
theorem dX2_isOpen_13 : decode cX2_isOpen 13 = .ok (.if_icmp .ne 7, 3) := by decide +kernel
theorem dX2_isOpen_16 : decode cX2_isOpen 16 = .ok (.iconst 1, 1) := by decide +kernel
theorem dX2_isOpen_17 : decode cX2_isOpen 17 = .ok (.goto 4, 3) := by decide +kernel
theorem dX2_isOpen_20 : decode cX2_isOpen 20 = .ok (.iconst 0, 1) := by decide +kernel
theorem dX2_isOpen_21 : decode cX2_isOpen 21 = .ok (.ireturn, 1) := by decide +kernel
set_option maxRecDepth 20000 in
theorem ggX2_levelNow_X2_hour : GoodIn wsX2_levelNow wsX2_hour := goodIn_r _ [8, 9, 10, 11, 12, 13, 14, 15, 16, 17] (by decide +kernel) (by decide +kernel)
set_option maxRecDepth 20000 in
theorem gX2_levelNow_X2_hour : GoodIn wsX2_levelNow (wsV RX2 93 RX2 yX2_hour wsX2_hour) := goodIn_app (goodIn_of _ (by decide +kernel)) ggX2_levelNow_X2_hour
theorem dX2_levelNow_0 : decode cX2_levelNow 0 = .ok (.aload_n 0, 1) := by decide +kernel
theorem dX2_levelNow_1 : decode cX2_levelNow 1 = .ok (.invokevirtual 93, 3) := by decide +kernel
theorem dX2_levelNow_4 : decode cX2_levelNow 4 = .ok (.istore_n 2, 1) := by decide +kernel
theorem dX2_levelNow_5 : decode cX2_levelNow 5 = .ok (.iload_n 2, 1) := by decide +kernel
theorem dX2_levelNow_6 : decode cX2_levelNow 6 = .ok (.bipush 8, 2) := by decide +kernel
theorem dX2_levelNow_8 : decode cX2_levelNow 8 = .ok (.if_icmp .lt 13, 3) := by decide +kernel
theorem dX2_levelNow_11 : decode cX2_levelNow 11 = .ok (.iload_n 2, 1) := by decide +kernel
theorem dX2_levelNow_12 : decode cX2_levelNow 12 = .ok (.bipush 17, 2) := by decide +kernel
theorem dX2_levelNow_14 : decode cX2_levelNow 14 = .ok (.if_icmp .gt 7, 3) := by decide +kernel
theorem dX2_levelNow_17 : decode cX2_levelNow 17 = .ok (.iconst 1, 1) := by decide +kernel
theorem dX2_levelNow_18 : decode cX2_levelNow 18 = .ok (.goto 4, 3) := by decide +kernel
theorem dX2_levelNow_21 : decode cX2_levelNow 21 = .ok (.iconst 0, 1) := by decide +kernel
theorem dX2_levelNow_22 : decode cX2_levelNow 22 = .ok (.istore_n 3, 1) := by decide +kernel
theorem dX2_levelNow_23 : decode cX2_levelNow 23 = .ok (.iload_n 3, 1) := by decide +kernel
theorem dX2_levelNow_24 : decode cX2_levelNow 24 = .ok (.ifCond .eq 15, 3) := by decide +kernel
theorem dX2_levelNow_27 : decode cX2_levelNow 27 = .ok (.aload_n 0, 1) := by decide +kernel
theorem dX2_levelNow_28 : decode cX2_levelNow 28 = .ok (.getfield 12, 3) := by decide +kernel
theorem dX2_levelNow_31 : decode cX2_levelNow 31 = .ok (.getfield 100, 3) := by decide +kernel
theorem dX2_levelNow_34 : decode cX2_levelNow 34 = .ok (.iload_n 1, 1) := by decide +kernel
theorem dX2_levelNow_35 : decode cX2_levelNow 35 = .ok (.iaload, 1) := by decide +kernel
theorem dX2_levelNow_36 : decode cX2_levelNow 36 = .ok (.goto 12, 3) := by decide +kernel
theorem dX2_levelNow_39 : decode cX2_levelNow 39 = .ok (.aload_n 0, 1) := by decide +kernel
theorem dX2_levelNow_40 : decode cX2_levelNow 40 = .ok (.getfield 12, 3) := by decide +kernel
theorem dX2_levelNow_43 : decode cX2_levelNow 43 = .ok (.getfield 103, 3) := by decide +kernel
theorem dX2_levelNow_46 : decode cX2_levelNow 46 = .ok (.iload_n 1, 1) := by decide +kernel
theorem dX2_levelNow_47 : decode cX2_levelNow 47 = .ok (.iaload, 1) := by decide +kernel
theorem dX2_levelNow_48 : decode cX2_levelNow 48 = .ok (.ireturn, 1) := by decide +kernel
set_option maxRecDepth 20000 in
theorem ggX2_ask_X2_decideOnline : GoodIn wsX2_ask wsX2_decideOnline := goodIn_r _ [9, 1, 10, 11, 12, 13, 14, 15, 16, 17, 18, 19, 20, 8, 21, 22, 23, 24, 25, 26, 27, 4, 28, 29, 30, 31, 32, 33, 34, 35, 36, 37, 38, 39, 40, 41, 42, 43, 105, 106, 107, 108, 109, 110, 111, 112, 113, 114, 115, 116, 117, 118, 119, 120, 121, 122, 123, 124, 125, 126, 127, 128, 129, 130, 131, 132, 133, 134, 135, 136] (by decide +kernel) (by decide +kernel)
set_option maxRecDepth 20000 in
theorem gX2_ask_X2_decideOnline : GoodIn wsX2_ask (wsV RX2 106 RX2 yX2_decideOnline wsX2_decideOnline) := goodIn_app (goodIn_of _ (by decide +kernel)) ggX2_ask_X2_decideOnline
set_option maxRecDepth 20000 in
theorem ggX2_ask_X2_decideOffline : GoodIn wsX2_ask wsX2_decideOffline := goodIn_r _ [47, 1, 10, 18, 19, 20, 8, 21, 22, 23, 24, 25, 26, 27, 4, 48, 49, 50, 41, 51, 52, 53, 54, 55, 56, 57, 58, 28, 29, 30, 31, 32, 33, 34, 35, 36, 37, 105, 106, 107, 108, 109, 110, 111, 112, 113, 114, 115, 116, 117, 118, 119, 120, 121, 122, 123, 124, 125, 126, 127, 128, 129] (by decide +kernel) (by decide +kernel)
set_option maxRecDepth 20000 in
theorem gX2_ask_X2_decideOffline : GoodIn wsX2_ask (wsV RX2 110 RX2 yX2_decideOffline wsX2_decideOffline) := goodIn_app (goodIn_of _ (by decide +kernel)) ggX2_ask_X2_decideOffline
set_option maxRecDepth 20000 in
theorem ggX2_ask_X1_startWaiting : GoodIn wsX2_ask wsX1_startWaiting := goodIn_r _ [62, 43, 113, 114, 115, 116, 117, 118, 119, 120, 121, 122, 123, 124, 125, 126, 127, 128, 129] (by decide +kernel) (by decide +kernel)
set_option maxRecDepth 20000 in
theorem gX2_ask_X1_startWaiting : GoodIn wsX2_ask (wsV RX2 113 RX1 yX1_startWaiting wsX1_startWaiting) := goodIn_app (goodIn_of _ (by decide +kernel)) ggX2_ask_X1_startWaiting
set_option maxRecDepth 20000 in
theorem ggX2_ask_X2_raiseAlarm : GoodIn wsX2_ask wsX2_raiseAlarm := goodIn_r _ [66, 67, 11, 68, 105, 106, 107, 108, 109, 110, 111, 112, 130, 131, 132, 133, 134, 135, 136] (by decide +kernel) (by decide +kernel)
set_option maxRecDepth 20000 in
theorem gX2_ask_X2_raiseAlarm : GoodIn wsX2_ask (wsV RX2 117 RX2 yX2_raiseAlarm wsX2_raiseAlarm) := goodIn_app (goodIn_of _ (by decide +kernel)) ggX2_ask_X2_raiseAlarm
set_option maxRecDepth 20000 in
theorem ggX2_ask_X1_addNote : GoodIn wsX2_ask wsX1_addNote := goodIn_r _ [72, 73, 74, 75, 113, 114, 115, 116, 117, 118, 119, 120, 121, 122, 123, 124, 125, 126, 127, 128, 129] (by decide +kernel) (by decide +kernel)
set_option maxRecDepth 20000 in
theorem gX2_ask_X1_addNote : GoodIn wsX2_ask (wsV RX2 121 RX1 yX1_addNote wsX1_addNote) := goodIn_app (goodIn_of _ (by decide +kernel)) ggX2_ask_X1_addNote
set_option maxRecDepth 20000 in
theorem ggX2_ask_X2_goThrough : GoodIn wsX2_ask wsX2_goThrough := goodIn_r _ [79, 1, 27, 4, 3, 11, 80, 81, 82, 83, 84, 85, 86, 87, 88, 89, 105, 106, 107, 108, 109, 110, 111, 112, 113, 114, 115, 116, 117, 118, 119, 120, 121, 122, 123, 124, 125, 126, 127, 128, 129, 130, 131, 132, 133, 134, 135, 136, 137, 138, 139] (by decide +kernel) (by decide +kernel)
set_option maxRecDepth 20000 in
theorem gX2_ask_X2_goThrough : GoodIn wsX2_ask (wsV RX2 125 RX2 yX2_goThrough wsX2_goThrough) := goodIn_app (goodIn_of _ (by decide +kernel)) ggX2_ask_X2_goThrough
set_option maxRecDepth 20000 in
theorem ggX2_ask_X2_let : GoodIn wsX2_ask wsX2_let := goodIn_r _ [93, 4, 94, 95, 96, 8, 97, 1, 14, 11, 15, 16, 98, 10, 99, 76, 77, 78, 79, 27, 3, 80, 81, 82, 83, 84, 85, 86, 87, 88, 89, 105, 106, 107, 108, 109, 110, 111, 112, 113, 114, 115, 116, 117, 118, 119, 120, 121, 122, 123, 124, 125, 126, 127, 128, 129, 130, 131, 132, 133, 134, 135, 136, 137, 138, 139] (by decide +kernel) (by decide +kernel)
set_option maxRecDepth 20000 in
theorem gX2_ask_X2_let : GoodIn wsX2_ask (wsV RX2 128 RX2 yX2_let wsX2_let) := goodIn_app (goodIn_of _ (by decide +kernel)) ggX2_ask_X2_let
set_option maxRecDepth 20000 in
theorem ggX2_ask_X1_endWaiting : GoodIn wsX2_ask wsX1_endWaiting := goodIn_r _ [103, 104, 43, 113, 114, 115, 116, 117, 118, 119, 120, 121, 122, 123, 124, 125, 126, 127, 128, 129] (by decide +kernel) (by decide +kernel)
set_option maxRecDepth 20000 in
theorem gX2_ask_X1_endWaiting : GoodIn wsX2_ask (wsV RX2 131 RX1 yX1_endWaiting wsX1_endWaiting) := goodIn_app (goodIn_of _ (by decide +kernel)) ggX2_ask_X1_endWaiting
theorem dX2_ask_0 : decode cX2_ask 0 = .ok (.aload_n 0, 1) := by decide +kernel
theorem dX2_ask_1 : decode cX2_ask 1 = .ok (.getfield 12, 3) := by decide +kernel
theorem dX2_ask_4 : decode cX2_ask 4 = .ok (.getfield 87, 3) := by decide +kernel
theorem dX2_ask_7 : decode cX2_ask 7 = .ok (.iload_n 2, 1) := by decide +kernel
theorem dX2_ask_8 : decode cX2_ask 8 = .ok (.iaload, 1) := by decide +kernel
theorem dX2_ask_9 : decode cX2_ask 9 = .ok (.iconst 1, 1) := by decide +kernel
theorem dX2_ask_10 : decode cX2_ask 10 = .ok (.if_icmp .ne 7, 3) := by decide +kernel
theorem dX2_ask_13 : decode cX2_ask 13 = .ok (.iconst 1, 1) := by decide +kernel
theorem dX2_ask_14 : decode cX2_ask 14 = .ok (.goto 4, 3) := by decide +kernel
theorem dX2_ask_17 : decode cX2_ask 17 = .ok (.iconst 0, 1) := by decide +kernel
theorem dX2_ask_18 : decode cX2_ask 18 = .ok (.istore 4, 2) := by decide +kernel
theorem dX2_ask_20 : decode cX2_ask 20 = .ok (.iload 4, 2) := by decide +kernel
theorem dX2_ask_22 : decode cX2_ask 22 = .ok (.ifCond .eq 12, 3) := by decide +kernel
theorem dX2_ask_25 : decode cX2_ask 25 = .ok (.aload_n 0, 1) := by decide +kernel
theorem dX2_ask_26 : decode cX2_ask 26 = .ok (.iload_n 1, 1) := by decide +kernel
theorem dX2_ask_27 : decode cX2_ask 27 = .ok (.iload_n 2, 1) := by decide +kernel
theorem dX2_ask_28 : decode cX2_ask 28 = .ok (.invokevirtual 106, 3) := by decide +kernel
theorem dX2_ask_31 : decode cX2_ask 31 = .ok (.goto 9, 3) := by decide +kernel
theorem dX2_ask_34 : decode cX2_ask 34 = .ok (.aload_n 0, 1) := by decide +kernel
theorem dX2_ask_35 : decode cX2_ask 35 = .ok (.iload_n 1, 1) := by decide +kernel
theorem dX2_ask_36 : decode cX2_ask 36 = .ok (.iload_n 2, 1) := by decide +kernel
theorem dX2_ask_37 : decode cX2_ask 37 = .ok (.invokevirtual 110, 3) := by decide +kernel
theorem dX2_ask_40 : decode cX2_ask 40 = .ok (.istore 5, 2) := by decide +kernel
theorem dX2_ask_42 : decode cX2_ask 42 = .ok (.iload 5, 2) := by decide +kernel
theorem dX2_ask_44 : decode cX2_ask 44 = .ok (.iconst 5, 1) := by decide +kernel
theorem dX2_ask_45 : decode cX2_ask 45 = .ok (.if_icmp .ne 12, 3) := by decide +kernel
theorem dX2_ask_48 : decode cX2_ask 48 = .ok (.aload_n 0, 1) := by decide +kernel
theorem dX2_ask_49 : decode cX2_ask 49 = .ok (.getfield 12, 3) := by decide +kernel
theorem dX2_ask_52 : decode cX2_ask 52 = .ok (.iload_n 2, 1) := by decide +kernel
theorem dX2_ask_53 : decode cX2_ask 53 = .ok (.iload_n 1, 1) := by decide +kernel
theorem dX2_ask_54 : decode cX2_ask 54 = .ok (.invokevirtual 113, 3) := by decide +kernel
theorem dX2_ask_57 : decode cX2_ask 57 = .ok (.iload 5, 2) := by decide +kernel
theorem dX2_ask_59 : decode cX2_ask 59 = .ok (.ifCond .eq 17, 3) := by decide +kernel
theorem dX2_ask_62 : decode cX2_ask 62 = .ok (.aload_n 0, 1) := by decide +kernel
theorem dX2_ask_63 : decode cX2_ask 63 = .ok (.getfield 32, 3) := by decide +kernel
theorem dX2_ask_66 : decode cX2_ask 66 = .ok (.iload 5, 2) := by decide +kernel
theorem dX2_ask_68 : decode cX2_ask 68 = .ok (.dup2, 1) := by decide +kernel
theorem dX2_ask_69 : decode cX2_ask 69 = .ok (.iaload, 1) := by decide +kernel
theorem dX2_ask_70 : decode cX2_ask 70 = .ok (.iconst 1, 1) := by decide +kernel
theorem dX2_ask_71 : decode cX2_ask 71 = .ok (.iadd, 1) := by decide +kernel
theorem dX2_ask_72 : decode cX2_ask 72 = .ok (.iastore, 1) := by decide +kernel
theorem dX2_ask_73 : decode cX2_ask 73 = .ok (.iload 5, 2) := by decide +kernel
theorem dX2_ask_75 : decode cX2_ask 75 = .ok (.ireturn, 1) := by decide +kernel
theorem dX2_ask_76 : decode cX2_ask 76 = .ok (.iload_n 3, 1) := by decide +kernel
theorem dX2_ask_77 : decode cX2_ask 77 = .ok (.iconst 1, 1) := by decide +kernel
theorem dX2_ask_78 : decode cX2_ask 78 = .ok (.if_icmp .ne 8, 3) := by decide +kernel
theorem dX2_ask_81 : decode cX2_ask 81 = .ok (.aload_n 0, 1) := by decide +kernel
theorem dX2_ask_82 : decode cX2_ask 82 = .ok (.iload_n 1, 1) := by decide +kernel
theorem dX2_ask_83 : decode cX2_ask 83 = .ok (.invokevirtual 117, 3) := by decide +kernel
theorem dX2_ask_86 : decode cX2_ask 86 = .ok (.iload 4, 2) := by decide +kernel
theorem dX2_ask_88 : decode cX2_ask 88 = .ok (.ifCond .ne 24, 3) := by decide +kernel
theorem dX2_ask_91 : decode cX2_ask 91 = .ok (.aload_n 0, 1) := by decide +kernel
theorem dX2_ask_92 : decode cX2_ask 92 = .ok (.getfield 12, 3) := by decide +kernel
theorem dX2_ask_95 : decode cX2_ask 95 = .ok (.iload_n 2, 1) := by decide +kernel
theorem dX2_ask_96 : decode cX2_ask 96 = .ok (.iload_n 1, 1) := by decide +kernel
theorem dX2_ask_97 : decode cX2_ask 97 = .ok (.aload_n 0, 1) := by decide +kernel
theorem dX2_ask_98 : decode cX2_ask 98 = .ok (.getfield 50, 3) := by decide +kernel
theorem dX2_ask_101 : decode cX2_ask 101 = .ok (.invokevirtual 121, 3) := by decide +kernel
theorem dX2_ask_104 : decode cX2_ask 104 = .ok (.aload_n 0, 1) := by decide +kernel
theorem dX2_ask_105 : decode cX2_ask 105 = .ok (.iload_n 1, 1) := by decide +kernel
theorem dX2_ask_106 : decode cX2_ask 106 = .ok (.iload_n 2, 1) := by decide +kernel
theorem dX2_ask_107 : decode cX2_ask 107 = .ok (.invokevirtual 125, 3) := by decide +kernel
theorem dX2_ask_110 : decode cX2_ask 110 = .ok (.iconst 0, 1) := by decide +kernel
theorem dX2_ask_111 : decode cX2_ask 111 = .ok (.ireturn, 1) := by decide +kernel
theorem dX2_ask_112 : decode cX2_ask 112 = .ok (.aload_n 0, 1) := by decide +kernel
theorem dX2_ask_113 : decode cX2_ask 113 = .ok (.iload_n 1, 1) := by decide +kernel
theorem dX2_ask_114 : decode cX2_ask 114 = .ok (.iload_n 2, 1) := by decide +kernel
theorem dX2_ask_115 : decode cX2_ask 115 = .ok (.invokevirtual 128, 3) := by decide +kernel
theorem dX2_ask_118 : decode cX2_ask 118 = .ok (.aload_n 0, 1) := by decide +kernel
theorem dX2_ask_119 : decode cX2_ask 119 = .ok (.getfield 12, 3) := by decide +kernel
theorem dX2_ask_122 : decode cX2_ask 122 = .ok (.iload_n 2, 1) := by decide +kernel
theorem dX2_ask_123 : decode cX2_ask 123 = .ok (.invokevirtual 131, 3) := by decide +kernel
theorem dX2_ask_126 : decode cX2_ask 126 = .ok (.istore 6, 2) := by decide +kernel
theorem dX2_ask_128 : decode cX2_ask 128 = .ok (.iload 6, 2) := by decide +kernel
theorem dX2_ask_130 : decode cX2_ask 130 = .ok (.iconst (-1), 1) := by decide +kernel
theorem dX2_ask_131 : decode cX2_ask 131 = .ok (.if_icmp .eq 10, 3) := by decide +kernel
theorem dX2_ask_134 : decode cX2_ask 134 = .ok (.aload_n 0, 1) := by decide +kernel
theorem dX2_ask_135 : decode cX2_ask 135 = .ok (.iload 6, 2) := by decide +kernel
theorem dX2_ask_137 : decode cX2_ask 137 = .ok (.iload_n 2, 1) := by decide +kernel
theorem dX2_ask_138 : decode cX2_ask 138 = .ok (.invokevirtual 128, 3) := by decide +kernel
theorem dX2_ask_141 : decode cX2_ask 141 = .ok (.iconst 0, 1) := by decide +kernel
theorem dX2_ask_142 : decode cX2_ask 142 = .ok (.ireturn, 1) := by decide +kernel
theorem dX2_raiseAlarm_0 : decode cX2_raiseAlarm 0 = .ok (.aload_n 0, 1) := by decide +kernel
theorem dX2_raiseAlarm_1 : decode cX2_raiseAlarm 1 = .ok (.dup, 1) := by decide +kernel
theorem dX2_raiseAlarm_2 : decode cX2_raiseAlarm 2 = .ok (.getfield 60, 3) := by decide +kernel
theorem dX2_raiseAlarm_5 : decode cX2_raiseAlarm 5 = .ok (.iconst 1, 1) := by decide +kernel
theorem dX2_raiseAlarm_6 : decode cX2_raiseAlarm 6 = .ok (.iadd, 1) := by decide +kernel
theorem dX2_raiseAlarm_7 : decode cX2_raiseAlarm 7 = .ok (.putfield 60, 3) := by decide +kernel
theorem dX2_raiseAlarm_10 : decode cX2_raiseAlarm 10 = .ok (.aload_n 0, 1) := by decide +kernel
theorem dX2_raiseAlarm_11 : decode cX2_raiseAlarm 11 = .ok (.getfield 21, 3) := by decide +kernel
theorem dX2_raiseAlarm_14 : decode cX2_raiseAlarm 14 = .ok (.getfield 135, 3) := by decide +kernel
theorem dX2_raiseAlarm_17 : decode cX2_raiseAlarm 17 = .ok (.iload_n 1, 1) := by decide +kernel
theorem dX2_raiseAlarm_18 : decode cX2_raiseAlarm 18 = .ok (.dup2, 1) := by decide +kernel
theorem dX2_raiseAlarm_19 : decode cX2_raiseAlarm 19 = .ok (.iaload, 1) := by decide +kernel
theorem dX2_raiseAlarm_20 : decode cX2_raiseAlarm 20 = .ok (.iconst 1, 1) := by decide +kernel
theorem dX2_raiseAlarm_21 : decode cX2_raiseAlarm 21 = .ok (.iadd, 1) := by decide +kernel
theorem dX2_raiseAlarm_22 : decode cX2_raiseAlarm 22 = .ok (.iastore, 1) := by decide +kernel
theorem dX2_raiseAlarm_23 : decode cX2_raiseAlarm 23 = .ok (.return_, 1) := by decide +kernel
set_option maxRecDepth 20000 in
theorem ggX2_let_X2_move : GoodIn wsX2_let wsX2_move := goodIn_r _ [6, 7, 8, 9, 10, 11, 12, 13, 14, 31, 32, 33, 34, 35, 36, 37, 38, 39, 40, 41, 42, 43, 44, 45, 46, 47, 48, 49, 50, 51, 52, 53, 54, 55, 56, 57, 58, 59, 60, 61, 62] (by decide +kernel) (by decide +kernel)
set_option maxRecDepth 20000 in
theorem gX2_let_X2_move : GoodIn wsX2_let (wsV RX2 137 RX2 yX2_move wsX2_move) := goodIn_app (goodIn_of _ (by decide +kernel)) ggX2_let_X2_move
set_option maxRecDepth 20000 in
theorem ggX2_let_X2_goThrough : GoodIn wsX2_let wsX2_goThrough := goodIn_r _ [18, 7, 19, 1, 20, 9, 21, 22, 23, 24, 25, 26, 27, 28, 29, 30, 31, 32, 33, 34, 35, 36, 37, 38, 39, 40, 41, 42, 43, 44, 45, 46, 47, 48, 49, 50, 51, 52, 53, 54, 55, 56, 57, 58, 59, 60, 61, 62, 63, 64, 65] (by decide +kernel) (by decide +kernel)
set_option maxRecDepth 20000 in
theorem gX2_let_X2_goThrough : GoodIn wsX2_let (wsV RX2 125 RX2 yX2_goThrough wsX2_goThrough) := goodIn_app (goodIn_of _ (by decide +kernel)) ggX2_let_X2_goThrough
theorem dX2_let_0 : decode cX2_let 0 = .ok (.aload_n 0, 1) := by decide +kernel
theorem dX2_let_1 : decode cX2_let 1 = .ok (.iload_n 1, 1) := by decide +kernel
theorem dX2_let_2 : decode cX2_let 2 = .ok (.iload_n 2, 1) := by decide +kernel
theorem dX2_let_3 : decode cX2_let 3 = .ok (.aload_n 0, 1) := by decide +kernel
theorem dX2_let_4 : decode cX2_let 4 = .ok (.getfield 50, 3) := by decide +kernel
theorem dX2_let_7 : decode cX2_let 7 = .ok (.invokevirtual 137, 3) := by decide +kernel
theorem dX2_let_10 : decode cX2_let 10 = .ok (.aload_n 0, 1) := by decide +kernel
theorem dX2_let_11 : decode cX2_let 11 = .ok (.iload_n 1, 1) := by decide +kernel
theorem dX2_let_12 : decode cX2_let 12 = .ok (.iload_n 2, 1) := by decide +kernel
theorem dX2_let_13 : decode cX2_let 13 = .ok (.invokevirtual 125, 3) := by decide +kernel
theorem dX2_let_16 : decode cX2_let 16 = .ok (.return_, 1) := by decide +kernel
theorem dX2_move_0 : decode cX2_move 0 = .ok (.aload_n 0, 1) := by decide +kernel
theorem dX2_move_1 : decode cX2_move 1 = .ok (.getfield 12, 3) := by decide +kernel
theorem dX2_move_4 : decode cX2_move 4 = .ok (.getfield 140, 3) := by decide +kernel
theorem dX2_move_7 : decode cX2_move 7 = .ok (.iload_n 2, 1) := by decide +kernel
theorem dX2_move_8 : decode cX2_move 8 = .ok (.iaload, 1) := by decide +kernel
theorem dX2_move_9 : decode cX2_move 9 = .ok (.ifCond .eq 34, 3) := by decide +kernel
theorem dX2_move_12 : decode cX2_move 12 = .ok (.aload_n 0, 1) := by decide +kernel
theorem dX2_move_13 : decode cX2_move 13 = .ok (.getfield 21, 3) := by decide +kernel
theorem dX2_move_16 : decode cX2_move 16 = .ok (.getfield 143, 3) := by decide +kernel
theorem dX2_move_19 : decode cX2_move 19 = .ok (.iload_n 1, 1) := by decide +kernel
theorem dX2_move_20 : decode cX2_move 20 = .ok (.iaload, 1) := by decide +kernel
theorem dX2_move_21 : decode cX2_move 21 = .ok (.aload_n 0, 1) := by decide +kernel
theorem dX2_move_22 : decode cX2_move 22 = .ok (.getfield 12, 3) := by decide +kernel
theorem dX2_move_25 : decode cX2_move 25 = .ok (.getfield 146, 3) := by decide +kernel
theorem dX2_move_28 : decode cX2_move 28 = .ok (.iload_n 2, 1) := by decide +kernel
theorem dX2_move_29 : decode cX2_move 29 = .ok (.iaload, 1) := by decide +kernel
theorem dX2_move_30 : decode cX2_move 30 = .ok (.if_icmp .eq 13, 3) := by decide +kernel
theorem dX2_move_33 : decode cX2_move 33 = .ok (.aload_n 0, 1) := by decide +kernel
theorem dX2_move_34 : decode cX2_move 34 = .ok (.dup, 1) := by decide +kernel
theorem dX2_move_35 : decode cX2_move 35 = .ok (.getfield 54, 3) := by decide +kernel
theorem dX2_move_38 : decode cX2_move 38 = .ok (.iconst 1, 1) := by decide +kernel
theorem dX2_move_39 : decode cX2_move 39 = .ok (.iadd, 1) := by decide +kernel
theorem dX2_move_40 : decode cX2_move 40 = .ok (.putfield 54, 3) := by decide +kernel
theorem dX2_move_43 : decode cX2_move 43 = .ok (.aload_n 0, 1) := by decide +kernel
theorem dX2_move_44 : decode cX2_move 44 = .ok (.getfield 21, 3) := by decide +kernel
theorem dX2_move_47 : decode cX2_move 47 = .ok (.getfield 143, 3) := by decide +kernel
theorem dX2_move_50 : decode cX2_move 50 = .ok (.iload_n 1, 1) := by decide +kernel
theorem dX2_move_51 : decode cX2_move 51 = .ok (.aload_n 0, 1) := by decide +kernel
theorem dX2_move_52 : decode cX2_move 52 = .ok (.getfield 12, 3) := by decide +kernel
theorem dX2_move_55 : decode cX2_move 55 = .ok (.getfield 149, 3) := by decide +kernel
theorem dX2_move_58 : decode cX2_move 58 = .ok (.iload_n 2, 1) := by decide +kernel
theorem dX2_move_59 : decode cX2_move 59 = .ok (.iaload, 1) := by decide +kernel
theorem dX2_move_60 : decode cX2_move 60 = .ok (.iastore, 1) := by decide +kernel
theorem dX2_move_61 : decode cX2_move 61 = .ok (.aload_n 0, 1) := by decide +kernel
theorem dX2_move_62 : decode cX2_move 62 = .ok (.getfield 21, 3) := by decide +kernel
theorem dX2_move_65 : decode cX2_move 65 = .ok (.getfield 152, 3) := by decide +kernel
theorem dX2_move_68 : decode cX2_move 68 = .ok (.iload_n 1, 1) := by decide +kernel
theorem dX2_move_69 : decode cX2_move 69 = .ok (.iload_n 3, 1) := by decide +kernel
theorem dX2_move_70 : decode cX2_move 70 = .ok (.iastore, 1) := by decide +kernel
theorem dX2_move_71 : decode cX2_move 71 = .ok (.return_, 1) := by decide +kernel
set_option maxRecDepth 20000 in
theorem ggX2_goThrough_X5_add : GoodIn wsX2_goThrough wsX5_add := goodIn_r _ [12, 13, 14, 15, 48, 49, 50] (by decide +kernel) (by decide +kernel)
set_option maxRecDepth 20000 in
theorem gX2_goThrough_X5_add : GoodIn wsX2_goThrough (wsV RX2 158 RX5 yX5_add wsX5_add) := goodIn_app (goodIn_of _ (by decide +kernel)) ggX2_goThrough_X5_add
theorem dX2_goThrough_0 : decode cX2_goThrough 0 = .ok (.aload_n 0, 1) := by decide +kernel
theorem dX2_goThrough_1 : decode cX2_goThrough 1 = .ok (.getfield 12, 3) := by decide +kernel
theorem dX2_goThrough_4 : decode cX2_goThrough 4 = .ok (.getfield 97, 3) := by decide +kernel
theorem dX2_goThrough_7 : decode cX2_goThrough 7 = .ok (.iload_n 2, 1) := by decide +kernel
theorem dX2_goThrough_8 : decode cX2_goThrough 8 = .ok (.aload_n 0, 1) := by decide +kernel
theorem dX2_goThrough_9 : decode cX2_goThrough 9 = .ok (.getfield 50, 3) := by decide +kernel
theorem dX2_goThrough_12 : decode cX2_goThrough 12 = .ok (.iastore, 1) := by decide +kernel
theorem dX2_goThrough_13 : decode cX2_goThrough 13 = .ok (.aload_n 0, 1) := by decide +kernel
theorem dX2_goThrough_14 : decode cX2_goThrough 14 = .ok (.getfield 32, 3) := by decide +kernel
theorem dX2_goThrough_17 : decode cX2_goThrough 17 = .ok (.iconst 0, 1) := by decide +kernel
theorem dX2_goThrough_18 : decode cX2_goThrough 18 = .ok (.dup2, 1) := by decide +kernel
theorem dX2_goThrough_19 : decode cX2_goThrough 19 = .ok (.iaload, 1) := by decide +kernel
theorem dX2_goThrough_20 : decode cX2_goThrough 20 = .ok (.iconst 1, 1) := by decide +kernel
theorem dX2_goThrough_21 : decode cX2_goThrough 21 = .ok (.iadd, 1) := by decide +kernel
theorem dX2_goThrough_22 : decode cX2_goThrough 22 = .ok (.iastore, 1) := by decide +kernel
theorem dX2_goThrough_23 : decode cX2_goThrough 23 = .ok (.aload_n 0, 1) := by decide +kernel
theorem dX2_goThrough_24 : decode cX2_goThrough 24 = .ok (.getfield 21, 3) := by decide +kernel
theorem dX2_goThrough_27 : decode cX2_goThrough 27 = .ok (.getfield 155, 3) := by decide +kernel
theorem dX2_goThrough_30 : decode cX2_goThrough 30 = .ok (.iload_n 1, 1) := by decide +kernel
theorem dX2_goThrough_31 : decode cX2_goThrough 31 = .ok (.dup2, 1) := by decide +kernel
theorem dX2_goThrough_32 : decode cX2_goThrough 32 = .ok (.iaload, 1) := by decide +kernel
theorem dX2_goThrough_33 : decode cX2_goThrough 33 = .ok (.iconst 1, 1) := by decide +kernel
theorem dX2_goThrough_34 : decode cX2_goThrough 34 = .ok (.iadd, 1) := by decide +kernel
theorem dX2_goThrough_35 : decode cX2_goThrough 35 = .ok (.iastore, 1) := by decide +kernel
theorem dX2_goThrough_36 : decode cX2_goThrough 36 = .ok (.aload_n 0, 1) := by decide +kernel
theorem dX2_goThrough_37 : decode cX2_goThrough 37 = .ok (.getfield 28, 3) := by decide +kernel
theorem dX2_goThrough_40 : decode cX2_goThrough 40 = .ok (.iload_n 1, 1) := by decide +kernel
theorem dX2_goThrough_41 : decode cX2_goThrough 41 = .ok (.iload_n 2, 1) := by decide +kernel
theorem dX2_goThrough_42 : decode cX2_goThrough 42 = .ok (.invokevirtual 158, 3) := by decide +kernel
theorem dX2_goThrough_45 : decode cX2_goThrough 45 = .ok (.return_, 1) := by decide +kernel
set_option maxRecDepth 20000 in
theorem ggX2_decideOnline_X2_isShut : GoodIn wsX2_decideOnline wsX2_isShut := goodIn_r _ [14, 1, 15, 16, 17, 18, 13, 19, 20, 21, 38, 39, 40, 41, 42, 43, 44, 45, 46, 47, 48, 49, 50, 51, 52, 53, 54, 55, 56, 57, 58, 59, 60, 61, 62] (by decide +kernel) (by decide +kernel)
set_option maxRecDepth 20000 in
theorem gX2_decideOnline_X2_isShut : GoodIn wsX2_decideOnline (wsV RX2 161 RX2 yX2_isShut wsX2_isShut) := goodIn_app (goodIn_of _ (by decide +kernel)) ggX2_decideOnline_X2_isShut
set_option maxRecDepth 20000 in
theorem ggX2_decideOnline_X2_levelNow : GoodIn wsX2_decideOnline wsX2_levelNow := goodIn_r _ [25, 1, 26, 27, 28, 29, 30, 13, 31, 21, 38, 39, 40, 41, 42, 43, 44, 45, 46, 47, 48, 49, 50, 51, 52, 53, 54, 55, 56, 57, 58, 59, 60, 61, 62] (by decide +kernel) (by decide +kernel)
set_option maxRecDepth 20000 in
theorem gX2_decideOnline_X2_levelNow : GoodIn wsX2_decideOnline (wsV RX2 170 RX2 yX2_levelNow wsX2_levelNow) := goodIn_app (goodIn_of _ (by decide +kernel)) ggX2_decideOnline_X2_levelNow
set_option maxRecDepth 20000 in
theorem ggX2_decideOnline_X1_anotherWaits : GoodIn wsX2_decideOnline wsX1_anotherWaits := goodIn_r _ [36, 37, 46, 47, 48, 49, 50, 51, 52, 53, 54, 55, 56, 57, 58, 59, 60, 61, 62] (by decide +kernel) (by decide +kernel)
set_option maxRecDepth 20000 in
theorem gX2_decideOnline_X1_anotherWaits : GoodIn wsX2_decideOnline (wsV RX2 176 RX1 yX1_anotherWaits wsX1_anotherWaits) := goodIn_app (goodIn_of _ (by decide +kernel)) ggX2_decideOnline_X1_anotherWaits
theorem dX2_decideOnline_0 : decode cX2_decideOnline 0 = .ok (.aload_n 0, 1) := by decide +kernel
theorem dX2_decideOnline_1 : decode cX2_decideOnline 1 = .ok (.iload_n 2, 1) := by decide +kernel
theorem dX2_decideOnline_2 : decode cX2_decideOnline 2 = .ok (.invokevirtual 161, 3) := by decide +kernel
theorem dX2_decideOnline_5 : decode cX2_decideOnline 5 = .ok (.ifCond .eq 5, 3) := by decide +kernel
theorem dX2_decideOnline_8 : decode cX2_decideOnline 8 = .ok (.iconst 1, 1) := by decide +kernel
theorem dX2_decideOnline_9 : decode cX2_decideOnline 9 = .ok (.ireturn, 1) := by decide +kernel
theorem dX2_decideOnline_10 : decode cX2_decideOnline 10 = .ok (.aload_n 0, 1) := by decide +kernel
theorem dX2_decideOnline_11 : decode cX2_decideOnline 11 = .ok (.getfield 12, 3) := by decide +kernel
theorem dX2_decideOnline_14 : decode cX2_decideOnline 14 = .ok (.getfield 149, 3) := by decide +kernel
theorem dX2_decideOnline_17 : decode cX2_decideOnline 17 = .ok (.iload_n 2, 1) := by decide +kernel
theorem dX2_decideOnline_18 : decode cX2_decideOnline 18 = .ok (.iaload, 1) := by decide +kernel
theorem dX2_decideOnline_19 : decode cX2_decideOnline 19 = .ok (.ifCond .ne 5, 3) := by decide +kernel
theorem dX2_decideOnline_22 : decode cX2_decideOnline 22 = .ok (.iconst 0, 1) := by decide +kernel
theorem dX2_decideOnline_23 : decode cX2_decideOnline 23 = .ok (.ireturn, 1) := by decide +kernel
theorem dX2_decideOnline_24 : decode cX2_decideOnline 24 = .ok (.aload_n 0, 1) := by decide +kernel
theorem dX2_decideOnline_25 : decode cX2_decideOnline 25 = .ok (.getfield 21, 3) := by decide +kernel
theorem dX2_decideOnline_28 : decode cX2_decideOnline 28 = .ok (.getfield 164, 3) := by decide +kernel
theorem dX2_decideOnline_31 : decode cX2_decideOnline 31 = .ok (.iload_n 1, 1) := by decide +kernel
theorem dX2_decideOnline_32 : decode cX2_decideOnline 32 = .ok (.iaload, 1) := by decide +kernel
theorem dX2_decideOnline_33 : decode cX2_decideOnline 33 = .ok (.iconst 1, 1) := by decide +kernel
theorem dX2_decideOnline_34 : decode cX2_decideOnline 34 = .ok (.if_icmp .ne 5, 3) := by decide +kernel
theorem dX2_decideOnline_37 : decode cX2_decideOnline 37 = .ok (.iconst 2, 1) := by decide +kernel
theorem dX2_decideOnline_38 : decode cX2_decideOnline 38 = .ok (.ireturn, 1) := by decide +kernel
theorem dX2_decideOnline_39 : decode cX2_decideOnline 39 = .ok (.aload_n 0, 1) := by decide +kernel
theorem dX2_decideOnline_40 : decode cX2_decideOnline 40 = .ok (.getfield 21, 3) := by decide +kernel
theorem dX2_decideOnline_43 : decode cX2_decideOnline 43 = .ok (.getfield 167, 3) := by decide +kernel
theorem dX2_decideOnline_46 : decode cX2_decideOnline 46 = .ok (.iload_n 1, 1) := by decide +kernel
theorem dX2_decideOnline_47 : decode cX2_decideOnline 47 = .ok (.iaload, 1) := by decide +kernel
theorem dX2_decideOnline_48 : decode cX2_decideOnline 48 = .ok (.aload_n 0, 1) := by decide +kernel
theorem dX2_decideOnline_49 : decode cX2_decideOnline 49 = .ok (.iload_n 2, 1) := by decide +kernel
theorem dX2_decideOnline_50 : decode cX2_decideOnline 50 = .ok (.invokevirtual 170, 3) := by decide +kernel
theorem dX2_decideOnline_53 : decode cX2_decideOnline 53 = .ok (.if_icmp .ge 5, 3) := by decide +kernel
theorem dX2_decideOnline_56 : decode cX2_decideOnline 56 = .ok (.iconst 3, 1) := by decide +kernel
theorem dX2_decideOnline_57 : decode cX2_decideOnline 57 = .ok (.ireturn, 1) := by decide +kernel
theorem dX2_decideOnline_58 : decode cX2_decideOnline 58 = .ok (.aload_n 0, 1) := by decide +kernel
theorem dX2_decideOnline_59 : decode cX2_decideOnline 59 = .ok (.getfield 12, 3) := by decide +kernel
theorem dX2_decideOnline_62 : decode cX2_decideOnline 62 = .ok (.getfield 140, 3) := by decide +kernel
theorem dX2_decideOnline_65 : decode cX2_decideOnline 65 = .ok (.iload_n 2, 1) := by decide +kernel
