def wsL_q1_0 : List Cond := [Cond.classLink RL 7 RX0, Cond.instantiable RX0 12, Cond.initialized RX0, Cond.classLink RL 10 RX1, Cond.instantiable RX1 17, Cond.initialized RX1, Cond.methodLink RL 9 yX0_init, Cond.instanceMethod yX0_init]
set_option maxRecDepth 20000 in
theorem wsL_qi1_0 : ∀ w ∈ wsL_q1_0, w ∈ lw_tbl := fun w h => (goodIn_p wsL_q1_0 [] (by decide +kernel) (by decide +kernel) w h).1
def wsL_q1_1 : List Cond := [Cond.code yX0_init cX0_init 1 none, Cond.methodLink RX0 1 objectInit, Cond.instanceMethod objectInit, Cond.code objectInit ⟨#[0xb1]⟩ 1 none, Cond.arrayClass .int, Cond.fieldLink RX0 9 "TraverseBoard" "buffer" "[I", Cond.fieldLink RX0 13 "TraverseBoard" "points" "[I", Cond.fieldLink RX0 16 "TraverseBoard" "speeds" "[I"]
set_option maxRecDepth 20000 in
theorem wsL_qi1_1 : ∀ w ∈ wsL_q1_1, w ∈ lw_tbl := fun w h => (goodIn_p wsL_q1_1 [62, 65] (by decide +kernel) (by decide +kernel) w h).1
def wsL_q1_2 : List Cond := [Cond.fieldLink RX0 19 "TraverseBoard" "leeways" "[I", Cond.arrayClass .boolean, Cond.fieldLink RX0 22 "TraverseBoard" "lost" "[Z", Cond.fieldLink RX0 26 "TraverseBoard" "fixed" "[Z", Cond.fieldLink RX0 29 "TraverseBoard" "fixNorths" "[I", Cond.fieldLink RX0 32 "TraverseBoard" "fixEasts" "[I", Cond.methodLink RL 12 yX1_init, Cond.instanceMethod yX1_init]
set_option maxRecDepth 20000 in
theorem wsL_qi1_2 : ∀ w ∈ wsL_q1_2, w ∈ lw_tbl := fun w h => (goodIn_p wsL_q1_2 [] (by decide +kernel) (by decide +kernel) w h).1
theorem wsL_ri1 : ∀ w ∈ wsL_law_r1, w ∈ lw_tbl := show ∀ w ∈ (wsL_q1_0 ++ (wsL_q1_1 ++ wsL_q1_2)), w ∈ lw_tbl from List.forall_mem_append.mpr ⟨wsL_qi1_0, List.forall_mem_append.mpr ⟨wsL_qi1_1, wsL_qi1_2⟩⟩
def wsL_q2_0 : List Cond := [Cond.code yX1_init cX1_init 1 none, Cond.methodLink RX1 1 objectInit, Cond.fieldLink RX1 7 "TraverseBoardModel" "buffer" "[I", Cond.fieldLink RX1 13 "TraverseBoardModel" "point" "[I", Cond.fieldLink RX1 16 "TraverseBoardModel" "speed" "[I", Cond.fieldLink RX1 19 "TraverseBoardModel" "leeway" "[I", Cond.fieldLink RX1 22 "TraverseBoardModel" "isLost" "[Z", Cond.fieldLink RX1 26 "TraverseBoardModel" "hasFix" "[Z"]
set_option maxRecDepth 20000 in
theorem wsL_qi2_0 : ∀ w ∈ wsL_q2_0, w ∈ lw_tbl := fun w h => (goodIn_p wsL_q2_0 [413] (by decide +kernel) (by decide +kernel) w h).1
def wsL_q2_1 : List Cond := [Cond.arrayClass .long, Cond.fieldLink RX1 29 "TraverseBoardModel" "fixNorth" "[J", Cond.fieldLink RX1 33 "TraverseBoardModel" "fixEast" "[J", Cond.methodLink RL 13 yX0_append, Cond.instanceMethod yX0_append, Cond.selects RX0 yX0_append yX0_append, Cond.code yX0_append cX0_append 2 (some .long), Cond.constantLong RX0 39 (-9000000000000000001)]
set_option maxRecDepth 20000 in
theorem wsL_qi2_1 : ∀ w ∈ wsL_q2_1, w ∈ lw_tbl := fun w h => (goodIn_p wsL_q2_1 [108] (by decide +kernel) (by decide +kernel) w h).1
def wsL_q2_2 : List Cond := [Cond.fieldLink RX0 41 "TraverseBoard" "bufferLength" "I", Cond.constantLong RX0 45 (-9000000000000000004), Cond.methodLink RX0 35 yX0_inRange, Cond.static yX0_inRange, Cond.code yX0_inRange cX0_inRange 3 (some .boolean), Cond.methodLink RL 17 yX1_append, Cond.instanceMethod yX1_append, Cond.selects RX1 yX1_append yX1_append]
set_option maxRecDepth 20000 in
theorem wsL_qi2_2 : ∀ w ∈ wsL_q2_2, w ∈ lw_tbl := fun w h => (goodIn_p wsL_q2_2 [111] (by decide +kernel) (by decide +kernel) w h).1
theorem wsL_ri2 : ∀ w ∈ wsL_law_r2, w ∈ lw_tbl := show ∀ w ∈ (wsL_q2_0 ++ (wsL_q2_1 ++ wsL_q2_2)), w ∈ lw_tbl from List.forall_mem_append.mpr ⟨wsL_qi2_0, List.forall_mem_append.mpr ⟨wsL_qi2_1, wsL_qi2_2⟩⟩
def wsL_q3_0 : List Cond := [Cond.code yX1_append cX1_append 2 (some .long), Cond.constantLong RX1 51 (-9000000000000000001), Cond.fieldLink RX1 53 "TraverseBoardModel" "bufferLength" "I", Cond.constantLong RX1 57 (-9000000000000000004), Cond.methodLink RX1 47 yX1_within, Cond.static yX1_within, Cond.code yX1_within cX1_within 3 (some .boolean), Cond.methodLink RL 18 yX0_clearBuffer]
set_option maxRecDepth 20000 in
theorem wsL_qi3_0 : ∀ w ∈ wsL_q3_0, w ∈ lw_tbl := fun w h => (goodIn_p wsL_q3_0 [471, 474] (by decide +kernel) (by decide +kernel) w h).1
def wsL_q3_1 : List Cond := [Cond.instanceMethod yX0_clearBuffer, Cond.selects RX0 yX0_clearBuffer yX0_clearBuffer, Cond.code yX0_clearBuffer cX0_clearBuffer 2 (some .long), Cond.methodLink RL 22 yX1_clearBuffer, Cond.instanceMethod yX1_clearBuffer, Cond.selects RX1 yX1_clearBuffer yX1_clearBuffer, Cond.code yX1_clearBuffer cX1_clearBuffer 2 (some .long), Cond.methodLink RL 23 yX0_errorPosition]
set_option maxRecDepth 20000 in
theorem wsL_qi3_1 : ∀ w ∈ wsL_q3_1, w ∈ lw_tbl := fun w h => (goodIn_p wsL_q3_1 [117, 480] (by decide +kernel) (by decide +kernel) w h).1
def wsL_q3_2 : List Cond := [Cond.instanceMethod yX0_errorPosition, Cond.selects RX0 yX0_errorPosition yX0_errorPosition, Cond.code yX0_errorPosition cX0_errorPosition 2 (some .long), Cond.methodLink RX0 47 yX0_pointInBuffer, Cond.instanceMethod yX0_pointInBuffer, Cond.selects RX0 yX0_pointInBuffer yX0_pointInBuffer, Cond.code yX0_pointInBuffer cX0_pointInBuffer 3 (some .int), Cond.methodLink RX0 51 yX0_agreement]
set_option maxRecDepth 20000 in
theorem wsL_qi3_2 : ∀ w ∈ wsL_q3_2, w ∈ lw_tbl := fun w h => (goodIn_p wsL_q3_2 [121, 125] (by decide +kernel) (by decide +kernel) w h).1
theorem wsL_ri3 : ∀ w ∈ wsL_law_r3, w ∈ lw_tbl := show ∀ w ∈ (wsL_q3_0 ++ (wsL_q3_1 ++ wsL_q3_2)), w ∈ lw_tbl from List.forall_mem_append.mpr ⟨wsL_qi3_0, List.forall_mem_append.mpr ⟨wsL_qi3_1, wsL_qi3_2⟩⟩
def wsL_q4_0 : List Cond := [Cond.instanceMethod yX0_agreement, Cond.selects RX0 yX0_agreement yX0_agreement, Cond.code yX0_agreement cX0_agreement 3 (some .int), Cond.methodLink RX0 55 yX0_blankEnds, Cond.instanceMethod yX0_blankEnds, Cond.selects RX0 yX0_blankEnds yX0_blankEnds, Cond.code yX0_blankEnds cX0_blankEnds 2 (some .boolean), Cond.methodLink RX0 83 yJ0_charAt_5068e]
set_option maxRecDepth 20000 in
theorem wsL_qi4_0 : ∀ w ∈ wsL_q4_0, w ∈ lw_tbl := fun w h => (goodIn_p wsL_q4_0 [129, 133] (by decide +kernel) (by decide +kernel) w h).1
def wsL_q4_1 : List Cond := [Cond.instanceMethod yJ0_charAt_5068e, Cond.selects RJ0 yJ0_charAt_5068e yJ0_charAt_5068e, Cond.initialized RJ0, Cond.code yJ0_charAt_5068e cJ0_charAt_5068e 2 (some .char), Cond.fieldLink RJ0 9 "java/lang/String" "value" "[B", Cond.methodLink RJ0 492 yJ0_isLatin1_aae02, Cond.instanceMethod yJ0_isLatin1_aae02, Cond.selects RJ0 yJ0_isLatin1_aae02 yJ0_isLatin1_aae02]
set_option maxRecDepth 20000 in
theorem wsL_qi4_1 : ∀ w ∈ wsL_q4_1, w ∈ lw_tbl := fun w h => (goodIn_p wsL_q4_1 [138] (by decide +kernel) (by decide +kernel) w h).1
def wsL_q4_2 : List Cond := [Cond.code yJ0_isLatin1_aae02 cJ0_isLatin1_aae02 1 (some .boolean), Cond.fieldLink RJ0 38 "java/lang/String" "COMPACT_STRINGS" "Z", Cond.fieldLink RJ0 15 "java/lang/String" "coder" "B", Cond.methodLink RJ0 495 yJ1_charAt_3b067, Cond.static yJ1_charAt_3b067, Cond.initialized RJ1, Cond.code yJ1_charAt_3b067 cJ1_charAt_3b067 2 (some .char), Cond.methodLink RJ1 9 yJ0_checkIndex_df160]
set_option maxRecDepth 20000 in
theorem wsL_qi4_2 : ∀ w ∈ wsL_q4_2, w ∈ lw_tbl := fun w h => (goodIn_p wsL_q4_2 [142, 147] (by decide +kernel) (by decide +kernel) w h).1
theorem wsL_ri4 : ∀ w ∈ wsL_law_r4, w ∈ lw_tbl := show ∀ w ∈ (wsL_q4_0 ++ (wsL_q4_1 ++ wsL_q4_2)), w ∈ lw_tbl from List.forall_mem_append.mpr ⟨wsL_qi4_0, List.forall_mem_append.mpr ⟨wsL_qi4_1, wsL_qi4_2⟩⟩
def wsL_q5_0 : List Cond := [Cond.static yJ0_checkIndex_df160, Cond.code yJ0_checkIndex_df160 cJ0_checkIndex_df160 2 none, Cond.fieldLink RJ0 1053 "jdk/internal/util/Preconditions" "SIOOBE_FORMATTER" "Ljava/util/function/BiFunction;", Cond.methodLink RJ0 1059 yJ3_checkIndex_8e157, Cond.static yJ3_checkIndex_8e157, Cond.initialized RJ3, Cond.code yJ3_checkIndex_8e157 cJ3_checkIndex_8e157 3 (some .int), Cond.methodLink RJ0 498 yJ2_charAt_3b067]
set_option maxRecDepth 20000 in
theorem wsL_qi5_0 : ∀ w ∈ wsL_q5_0, w ∈ lw_tbl := fun w h => (goodIn_p wsL_q5_0 [150, 155] (by decide +kernel) (by decide +kernel) w h).1
def wsL_q5_1 : List Cond := [Cond.static yJ2_charAt_3b067, Cond.initialized RJ2, Cond.code yJ2_charAt_3b067 cJ2_charAt_3b067 2 (some .char), Cond.methodLink RJ2 67 yJ2_checkIndex_2214a, Cond.static yJ2_checkIndex_2214a, Cond.code yJ2_checkIndex_2214a cJ2_checkIndex_2214a 2 none, Cond.methodLink RJ2 48 yJ2_length_9d52b, Cond.static yJ2_length_9d52b]
set_option maxRecDepth 20000 in
theorem wsL_qi5_1 : ∀ w ∈ wsL_q5_1, w ∈ lw_tbl := fun w h => (goodIn_p wsL_q5_1 [158, 161] (by decide +kernel) (by decide +kernel) w h).1
def wsL_q5_2 : List Cond := [Cond.code yJ2_length_9d52b cJ2_length_9d52b 1 (some .int), Cond.methodLink RJ2 414 yJ0_checkIndex_df160, Cond.methodLink RJ2 71 yJ2_getChar_3b067, Cond.static yJ2_getChar_3b067, Cond.code yJ2_getChar_3b067 cJ2_getChar_3b067 2 (some .char), Cond.fieldLink RJ2 44 "java/lang/StringUTF16" "$assertionsDisabled" "Z", Cond.fieldLink RJ2 59 "java/lang/StringUTF16" "HI_BYTE_SHIFT" "I", Cond.fieldLink RJ2 63 "java/lang/StringUTF16" "LO_BYTE_SHIFT" "I"]
set_option maxRecDepth 20000 in
theorem wsL_qi5_2 : ∀ w ∈ wsL_q5_2, w ∈ lw_tbl := fun w h => (goodIn_p wsL_q5_2 [164, 168] (by decide +kernel) (by decide +kernel) w h).1
theorem wsL_ri5 : ∀ w ∈ wsL_law_r5, w ∈ lw_tbl := show ∀ w ∈ (wsL_q5_0 ++ (wsL_q5_1 ++ wsL_q5_2)), w ∈ lw_tbl from List.forall_mem_append.mpr ⟨wsL_qi5_0, List.forall_mem_append.mpr ⟨wsL_qi5_1, wsL_qi5_2⟩⟩
def wsL_q6_0 : List Cond := [Cond.methodLink RX0 59 yX0_speedEnd, Cond.instanceMethod yX0_speedEnd, Cond.selects RX0 yX0_speedEnd yX0_speedEnd, Cond.code yX0_speedEnd cX0_speedEnd 3 (some .int), Cond.methodLink RX0 89 yX0_digitAllowed, Cond.instanceMethod yX0_digitAllowed, Cond.selects RX0 yX0_digitAllowed yX0_digitAllowed, Cond.code yX0_digitAllowed cX0_digitAllowed 3 (some .boolean)]
set_option maxRecDepth 20000 in
theorem wsL_qi6_0 : ∀ w ∈ wsL_q6_0, w ∈ lw_tbl := fun w h => (goodIn_p wsL_q6_0 [178, 182] (by decide +kernel) (by decide +kernel) w h).1
def wsL_q6_1 : List Cond := [Cond.methodLink RX0 66 yX0_digitEnds, Cond.instanceMethod yX0_digitEnds, Cond.selects RX0 yX0_digitEnds yX0_digitEnds, Cond.code yX0_digitEnds cX0_digitEnds 2 (some .boolean), Cond.methodLink RX0 74 yX0_number, Cond.instanceMethod yX0_number, Cond.selects RX0 yX0_number yX0_number, Cond.code yX0_number cX0_number 5 (some .int)]
set_option maxRecDepth 20000 in
theorem wsL_qi6_1 : ∀ w ∈ wsL_q6_1, w ∈ lw_tbl := fun w h => (goodIn_p wsL_q6_1 [186, 190] (by decide +kernel) (by decide +kernel) w h).1
def wsL_q6_2 : List Cond := [Cond.methodLink RL 26 yX1_errorPosition, Cond.instanceMethod yX1_errorPosition, Cond.selects RX1 yX1_errorPosition yX1_errorPosition, Cond.code yX1_errorPosition cX1_errorPosition 1 (some .long), Cond.fieldLink RX1 72 "TraverseBoardModel" "errorAt" "I", Cond.methodLink RX1 88 yX1_parse, Cond.instanceMethod yX1_parse, Cond.selects RX1 yX1_parse yX1_parse]
set_option maxRecDepth 20000 in
theorem wsL_qi6_2 : ∀ w ∈ wsL_q6_2, w ∈ lw_tbl := fun w h => (goodIn_p wsL_q6_2 [484] (by decide +kernel) (by decide +kernel) w h).1
theorem wsL_ri6 : ∀ w ∈ wsL_law_r6, w ∈ lw_tbl := show ∀ w ∈ (wsL_q6_0 ++ (wsL_q6_1 ++ wsL_q6_2)), w ∈ lw_tbl from List.forall_mem_append.mpr ⟨wsL_qi6_0, List.forall_mem_append.mpr ⟨wsL_qi6_1, wsL_qi6_2⟩⟩
def wsL_q7_0 : List Cond := [Cond.code yX1_parse cX1_parse 5 none, Cond.fieldLink RX1 75 "TraverseBoardModel" "isPeg" "Z", Cond.fieldLink RX1 82 "TraverseBoardModel" "readPoint" "I", Cond.fieldLink RX1 85 "TraverseBoardModel" "readSpeed" "I", Cond.methodLink RX1 68 yX1_isBeginning, Cond.instanceMethod yX1_isBeginning, Cond.selects RX1 yX1_isBeginning yX1_isBeginning, Cond.code yX1_isBeginning cX1_isBeginning 4 (some .boolean)]
set_option maxRecDepth 20000 in
theorem wsL_qi7_0 : ∀ w ∈ wsL_q7_0, w ∈ lw_tbl := fun w h => (goodIn_p wsL_q7_0 [488, 492] (by decide +kernel) (by decide +kernel) w h).1
def wsL_q7_1 : List Cond := [Cond.methodLink RX1 59 yX1_name, Cond.static yX1_name, Cond.code yX1_name cX1_name 1 (some .int), Cond.methodLink RX1 36 yX1_four, Cond.static yX1_four, Cond.code yX1_four cX1_four 4 (some .int), Cond.methodLink RX1 65 yX1_unit, Cond.static yX1_unit]
set_option maxRecDepth 20000 in
theorem wsL_qi7_1 : ∀ w ∈ wsL_q7_1, w ∈ lw_tbl := fun w h => (goodIn_p wsL_q7_1 [495, 498] (by decide +kernel) (by decide +kernel) w h).1
def wsL_q7_2 : List Cond := [Cond.code yX1_unit cX1_unit 3 (some .int), Cond.methodLink RX1 62 yX1_nameOf, Cond.instanceMethod yX1_nameOf, Cond.selects RX1 yX1_nameOf yX1_nameOf, Cond.code yX1_nameOf cX1_nameOf 2 (some .int), Cond.methodLink RX1 79 yX1_pointBy, Cond.instanceMethod yX1_pointBy, Cond.selects RX1 yX1_pointBy yX1_pointBy]
set_option maxRecDepth 20000 in
theorem wsL_qi7_2 : ∀ w ∈ wsL_q7_2, w ∈ lw_tbl := fun w h => (goodIn_p wsL_q7_2 [501, 505] (by decide +kernel) (by decide +kernel) w h).1
theorem wsL_ri7 : ∀ w ∈ wsL_law_r7, w ∈ lw_tbl := show ∀ w ∈ (wsL_q7_0 ++ (wsL_q7_1 ++ wsL_q7_2)), w ∈ lw_tbl from List.forall_mem_append.mpr ⟨wsL_qi7_0, List.forall_mem_append.mpr ⟨wsL_qi7_1, wsL_qi7_2⟩⟩
def wsL_q8_0 : List Cond := [Cond.code yX1_pointBy cX1_pointBy 4 (some .int), Cond.methodLink RL 27 yX0_addFromBuffer, Cond.instanceMethod yX0_addFromBuffer, Cond.selects RX0 yX0_addFromBuffer yX0_addFromBuffer, Cond.code yX0_addFromBuffer cX0_addFromBuffer 3 (some .long), Cond.constantLong RX0 69 (-9000000000000000005), Cond.fieldLink RX0 71 "TraverseBoard" "pegs" "I", Cond.methodLink RX0 62 yX0_errorPosition]
set_option maxRecDepth 20000 in
theorem wsL_qi8_0 : ∀ w ∈ wsL_q8_0, w ∈ lw_tbl := fun w h => (goodIn_p wsL_q8_0 [509, 195] (by decide +kernel) (by decide +kernel) w h).1
def wsL_q8_1 : List Cond := [Cond.methodLink RX0 78 yX0_putBehindLast, Cond.instanceMethod yX0_putBehindLast, Cond.selects RX0 yX0_putBehindLast yX0_putBehindLast, Cond.code yX0_putBehindLast cX0_putBehindLast 4 (some .int), Cond.methodLink RX0 104 yX0_put, Cond.instanceMethod yX0_put, Cond.selects RX0 yX0_put yX0_put, Cond.code yX0_put cX0_put 4 none]
set_option maxRecDepth 20000 in
theorem wsL_qi8_1 : ∀ w ∈ wsL_q8_1, w ∈ lw_tbl := fun w h => (goodIn_p wsL_q8_1 [201, 205] (by decide +kernel) (by decide +kernel) w h).1
def wsL_q8_2 : List Cond := [Cond.methodLink RL 30 yX1_addFromBuffer, Cond.instanceMethod yX1_addFromBuffer, Cond.selects RX1 yX1_addFromBuffer yX1_addFromBuffer, Cond.code yX1_addFromBuffer cX1_addFromBuffer 1 (some .long), Cond.constantLong RX1 94 (-9000000000000000005), Cond.fieldLink RX1 91 "TraverseBoardModel" "pegs" "I", Cond.methodLink RX1 96 yX1_addPeg, Cond.instanceMethod yX1_addPeg]
set_option maxRecDepth 20000 in
theorem wsL_qi8_2 : ∀ w ∈ wsL_q8_2, w ∈ lw_tbl := fun w h => (goodIn_p wsL_q8_2 [513] (by decide +kernel) (by decide +kernel) w h).1
theorem wsL_ri8 : ∀ w ∈ wsL_law_r8, w ∈ lw_tbl := show ∀ w ∈ (wsL_q8_0 ++ (wsL_q8_1 ++ wsL_q8_2)), w ∈ lw_tbl from List.forall_mem_append.mpr ⟨wsL_qi8_0, List.forall_mem_append.mpr ⟨wsL_qi8_1, wsL_qi8_2⟩⟩
def wsL_q9_0 : List Cond := [Cond.selects RX1 yX1_addPeg yX1_addPeg, Cond.code yX1_addPeg cX1_addPeg 3 (some .int), Cond.methodLink RL 31 yX0_add, Cond.instanceMethod yX0_add, Cond.selects RX0 yX0_add yX0_add, Cond.code yX0_add cX0_add 3 (some .long), Cond.methodLink RX0 93 yX0_isPoint, Cond.static yX0_isPoint]
set_option maxRecDepth 20000 in
theorem wsL_qi9_0 : ∀ w ∈ wsL_q9_0, w ∈ lw_tbl := fun w h => (goodIn_p wsL_q9_0 [518, 209] (by decide +kernel) (by decide +kernel) w h).1
def wsL_q9_1 : List Cond := [Cond.code yX0_isPoint cX0_isPoint 1 (some .boolean), Cond.methodLink RX0 96 yX0_isSpeed, Cond.static yX0_isSpeed, Cond.code yX0_isSpeed cX0_isSpeed 1 (some .boolean), Cond.methodLink RL 35 yX1_add, Cond.instanceMethod yX1_add, Cond.selects RX1 yX1_add yX1_add, Cond.code yX1_add cX1_add 3 (some .long)]
set_option maxRecDepth 20000 in
theorem wsL_qi9_1 : ∀ w ∈ wsL_q9_1, w ∈ lw_tbl := fun w h => (goodIn_p wsL_q9_1 [212, 215, 522] (by decide +kernel) (by decide +kernel) w h).1
def wsL_q9_2 : List Cond := [Cond.methodLink RX1 100 yX1_isPoint, Cond.static yX1_isPoint, Cond.code yX1_isPoint cX1_isPoint 1 (some .boolean), Cond.methodLink RL 36 yX0_replace, Cond.instanceMethod yX0_replace, Cond.selects RX0 yX0_replace yX0_replace, Cond.code yX0_replace cX0_replace 5 (some .long), Cond.constantLong RX0 102 (-9000000000000000002)]
set_option maxRecDepth 20000 in
theorem wsL_qi9_2 : ∀ w ∈ wsL_q9_2, w ∈ lw_tbl := fun w h => (goodIn_p wsL_q9_2 [525, 219] (by decide +kernel) (by decide +kernel) w h).1
theorem wsL_ri9 : ∀ w ∈ wsL_law_r9, w ∈ lw_tbl := show ∀ w ∈ (wsL_q9_0 ++ (wsL_q9_1 ++ wsL_q9_2)), w ∈ lw_tbl from List.forall_mem_append.mpr ⟨wsL_qi9_0, List.forall_mem_append.mpr ⟨wsL_qi9_1, wsL_qi9_2⟩⟩
def wsL_q10_0 : List Cond := [Cond.methodLink RX0 99 yX0_pegExists, Cond.instanceMethod yX0_pegExists, Cond.selects RX0 yX0_pegExists yX0_pegExists, Cond.code yX0_pegExists cX0_pegExists 2 (some .boolean), Cond.methodLink RL 40 yX1_replace, Cond.instanceMethod yX1_replace, Cond.selects RX1 yX1_replace yX1_replace, Cond.code yX1_replace cX1_replace 6 (some .long)]
set_option maxRecDepth 20000 in
theorem wsL_qi10_0 : ∀ w ∈ wsL_q10_0, w ∈ lw_tbl := fun w h => (goodIn_p wsL_q10_0 [223, 529] (by decide +kernel) (by decide +kernel) w h).1
def wsL_q10_1 : List Cond := [Cond.constantLong RX1 106 (-9000000000000000002), Cond.methodLink RX1 103 yX1_isPegNumber, Cond.instanceMethod yX1_isPegNumber, Cond.selects RX1 yX1_isPegNumber yX1_isPegNumber, Cond.code yX1_isPegNumber cX1_isPegNumber 2 (some .boolean), Cond.methodLink RL 41 yX0_removeLast, Cond.instanceMethod yX0_removeLast, Cond.selects RX0 yX0_removeLast yX0_removeLast]
set_option maxRecDepth 20000 in
theorem wsL_qi10_1 : ∀ w ∈ wsL_q10_1, w ∈ lw_tbl := fun w h => (goodIn_p wsL_q10_1 [533] (by decide +kernel) (by decide +kernel) w h).1
def wsL_q10_2 : List Cond := [Cond.code yX0_removeLast cX0_removeLast 1 (some .long), Cond.constantLong RX0 108 (-9000000000000000007), Cond.methodLink RL 44 yX1_removeLast, Cond.instanceMethod yX1_removeLast, Cond.selects RX1 yX1_removeLast yX1_removeLast, Cond.code yX1_removeLast cX1_removeLast 1 (some .long), Cond.constantLong RX1 108 (-9000000000000000007), Cond.methodLink RL 45 yX0_lose]
set_option maxRecDepth 20000 in
theorem wsL_qi10_2 : ∀ w ∈ wsL_q10_2, w ∈ lw_tbl := fun w h => (goodIn_p wsL_q10_2 [228, 538] (by decide +kernel) (by decide +kernel) w h).1
theorem wsL_ri10 : ∀ w ∈ wsL_law_r10, w ∈ lw_tbl := show ∀ w ∈ (wsL_q10_0 ++ (wsL_q10_1 ++ wsL_q10_2)), w ∈ lw_tbl from List.forall_mem_append.mpr ⟨wsL_qi10_0, List.forall_mem_append.mpr ⟨wsL_qi10_1, wsL_qi10_2⟩⟩
def wsL_q11_0 : List Cond := [Cond.instanceMethod yX0_lose, Cond.selects RX0 yX0_lose yX0_lose, Cond.code yX0_lose cX0_lose 2 (some .long), Cond.constantLong RX0 110 (-9000000000000000006), Cond.methodLink RX0 112 yX0_lostCount, Cond.instanceMethod yX0_lostCount, Cond.selects RX0 yX0_lostCount yX0_lostCount, Cond.code yX0_lostCount cX0_lostCount 5 (some .int)]
set_option maxRecDepth 20000 in
theorem wsL_qi11_0 : ∀ w ∈ wsL_q11_0, w ∈ lw_tbl := fun w h => (goodIn_p wsL_q11_0 [233, 238] (by decide +kernel) (by decide +kernel) w h).1
def wsL_q11_1 : List Cond := [Cond.methodLink RL 48 yX1_lose, Cond.instanceMethod yX1_lose, Cond.selects RX1 yX1_lose yX1_lose, Cond.code yX1_lose cX1_lose 2 (some .long), Cond.constantLong RX1 110 (-9000000000000000006), Cond.methodLink RX1 112 yX1_lostMany, Cond.instanceMethod yX1_lostMany, Cond.selects RX1 yX1_lostMany yX1_lostMany]
set_option maxRecDepth 20000 in
theorem wsL_qi11_1 : ∀ w ∈ wsL_q11_1, w ∈ lw_tbl := fun w h => (goodIn_p wsL_q11_1 [543] (by decide +kernel) (by decide +kernel) w h).1
def wsL_q11_2 : List Cond := [Cond.code yX1_lostMany cX1_lostMany 3 (some .int), Cond.methodLink RL 49 yX0_setLeeway, Cond.instanceMethod yX0_setLeeway, Cond.selects RX0 yX0_setLeeway yX0_setLeeway, Cond.code yX0_setLeeway cX0_setLeeway 4 (some .long), Cond.methodLink RL 52 yX1_setLeeway, Cond.instanceMethod yX1_setLeeway, Cond.selects RX1 yX1_setLeeway yX1_setLeeway]
set_option maxRecDepth 20000 in
theorem wsL_qi11_2 : ∀ w ∈ wsL_q11_2, w ∈ lw_tbl := fun w h => (goodIn_p wsL_q11_2 [548, 242] (by decide +kernel) (by decide +kernel) w h).1
theorem wsL_ri11 : ∀ w ∈ wsL_law_r11, w ∈ lw_tbl := show ∀ w ∈ (wsL_q11_0 ++ (wsL_q11_1 ++ wsL_q11_2)), w ∈ lw_tbl from List.forall_mem_append.mpr ⟨wsL_qi11_0, List.forall_mem_append.mpr ⟨wsL_qi11_1, wsL_qi11_2⟩⟩
def wsL_q12_0 : List Cond := [Cond.code yX1_setLeeway cX1_setLeeway 5 (some .long), Cond.methodLink RL 53 yX0_setCurrent, Cond.instanceMethod yX0_setCurrent, Cond.selects RX0 yX0_setCurrent yX0_setCurrent, Cond.code yX0_setCurrent cX0_setCurrent 4 (some .long), Cond.fieldLink RX0 115 "TraverseBoard" "drift" "I", Cond.fieldLink RX0 118 "TraverseBoard" "set" "I", Cond.methodLink RL 56 yX1_setCurrent]
set_option maxRecDepth 20000 in
theorem wsL_qi12_0 : ∀ w ∈ wsL_q12_0, w ∈ lw_tbl := fun w h => (goodIn_p wsL_q12_0 [552, 246] (by decide +kernel) (by decide +kernel) w h).1
def wsL_q12_1 : List Cond := [Cond.instanceMethod yX1_setCurrent, Cond.selects RX1 yX1_setCurrent yX1_setCurrent, Cond.code yX1_setCurrent cX1_setCurrent 5 (some .long), Cond.fieldLink RX1 116 "TraverseBoardModel" "drift" "I", Cond.fieldLink RX1 119 "TraverseBoardModel" "set" "I", Cond.methodLink RL 57 yX0_pegCount, Cond.instanceMethod yX0_pegCount, Cond.selects RX0 yX0_pegCount yX0_pegCount]
set_option maxRecDepth 20000 in
theorem wsL_qi12_1 : ∀ w ∈ wsL_q12_1, w ∈ lw_tbl := fun w h => (goodIn_p wsL_q12_1 [556] (by decide +kernel) (by decide +kernel) w h).1
def wsL_q12_2 : List Cond := [Cond.code yX0_pegCount cX0_pegCount 1 (some .long), Cond.methodLink RL 60 yX1_pegCount, Cond.instanceMethod yX1_pegCount, Cond.selects RX1 yX1_pegCount yX1_pegCount, Cond.code yX1_pegCount cX1_pegCount 1 (some .long), Cond.methodLink RL 61 yX0_pointOf, Cond.instanceMethod yX0_pointOf, Cond.selects RX0 yX0_pointOf yX0_pointOf]
set_option maxRecDepth 20000 in
theorem wsL_qi12_2 : ∀ w ∈ wsL_q12_2, w ∈ lw_tbl := fun w h => (goodIn_p wsL_q12_2 [250, 560] (by decide +kernel) (by decide +kernel) w h).1
theorem wsL_ri12 : ∀ w ∈ wsL_law_r12, w ∈ lw_tbl := show ∀ w ∈ (wsL_q12_0 ++ (wsL_q12_1 ++ wsL_q12_2)), w ∈ lw_tbl from List.forall_mem_append.mpr ⟨wsL_qi12_0, List.forall_mem_append.mpr ⟨wsL_qi12_1, wsL_qi12_2⟩⟩
def wsL_q13_0 : List Cond := [Cond.code yX0_pointOf cX0_pointOf 2 (some .long), Cond.methodLink RL 64 yX1_pointOf, Cond.instanceMethod yX1_pointOf, Cond.selects RX1 yX1_pointOf yX1_pointOf, Cond.code yX1_pointOf cX1_pointOf 2 (some .long), Cond.methodLink RX1 122 yX1_pointNow, Cond.instanceMethod yX1_pointNow, Cond.selects RX1 yX1_pointNow yX1_pointNow]
set_option maxRecDepth 20000 in
theorem wsL_qi13_0 : ∀ w ∈ wsL_q13_0, w ∈ lw_tbl := fun w h => (goodIn_p wsL_q13_0 [254, 564] (by decide +kernel) (by decide +kernel) w h).1
def wsL_q13_1 : List Cond := [Cond.code yX1_pointNow cX1_pointNow 2 (some .long), Cond.methodLink RL 65 yX0_speedOf, Cond.instanceMethod yX0_speedOf, Cond.selects RX0 yX0_speedOf yX0_speedOf, Cond.code yX0_speedOf cX0_speedOf 2 (some .long), Cond.methodLink RL 68 yX1_speedOf, Cond.instanceMethod yX1_speedOf, Cond.selects RX1 yX1_speedOf yX1_speedOf]
set_option maxRecDepth 20000 in
theorem wsL_qi13_1 : ∀ w ∈ wsL_q13_1, w ∈ lw_tbl := fun w h => (goodIn_p wsL_q13_1 [568, 258] (by decide +kernel) (by decide +kernel) w h).1
def wsL_q13_2 : List Cond := [Cond.code yX1_speedOf cX1_speedOf 2 (some .long), Cond.methodLink RX1 126 yX1_speedNow, Cond.instanceMethod yX1_speedNow, Cond.selects RX1 yX1_speedNow yX1_speedNow, Cond.code yX1_speedNow cX1_speedNow 2 (some .long), Cond.methodLink RL 69 yX0_speedTowards, Cond.instanceMethod yX0_speedTowards, Cond.selects RX0 yX0_speedTowards yX0_speedTowards]
set_option maxRecDepth 20000 in
theorem wsL_qi13_2 : ∀ w ∈ wsL_q13_2, w ∈ lw_tbl := fun w h => (goodIn_p wsL_q13_2 [572, 576] (by decide +kernel) (by decide +kernel) w h).1
theorem wsL_ri13 : ∀ w ∈ wsL_law_r13, w ∈ lw_tbl := show ∀ w ∈ (wsL_q13_0 ++ (wsL_q13_1 ++ wsL_q13_2)), w ∈ lw_tbl from List.forall_mem_append.mpr ⟨wsL_qi13_0, List.forall_mem_append.mpr ⟨wsL_qi13_1, wsL_qi13_2⟩⟩
def wsL_q14_0 : List Cond := [Cond.code yX0_speedTowards cX0_speedTowards 4 (some .long), Cond.methodLink RL 72 yX1_speedTowards, Cond.instanceMethod yX1_speedTowards, Cond.selects RX1 yX1_speedTowards yX1_speedTowards, Cond.code yX1_speedTowards cX1_speedTowards 5 (some .long), Cond.methodLink RL 73 yX0_setFix, Cond.instanceMethod yX0_setFix, Cond.selects RX0 yX0_setFix yX0_setFix]
set_option maxRecDepth 20000 in
theorem wsL_qi14_0 : ∀ w ∈ wsL_q14_0, w ∈ lw_tbl := fun w h => (goodIn_p wsL_q14_0 [262, 580] (by decide +kernel) (by decide +kernel) w h).1
def wsL_q14_1 : List Cond := [Cond.code yX0_setFix cX0_setFix 4 (some .long), Cond.constantLong RX0 124 (-9000000000000000003), Cond.methodLink RX0 121 yX0_fixCanStand, Cond.instanceMethod yX0_fixCanStand, Cond.selects RX0 yX0_fixCanStand yX0_fixCanStand, Cond.code yX0_fixCanStand cX0_fixCanStand 2 (some .boolean), Cond.methodLink RX0 126 yX0_isCoordinate, Cond.static yX0_isCoordinate]
set_option maxRecDepth 20000 in
theorem wsL_qi14_1 : ∀ w ∈ wsL_q14_1, w ∈ lw_tbl := fun w h => (goodIn_p wsL_q14_1 [266, 270] (by decide +kernel) (by decide +kernel) w h).1
def wsL_q14_2 : List Cond := [Cond.code yX0_isCoordinate cX0_isCoordinate 1 (some .boolean), Cond.constant RX0 132 (-200000000), Cond.constant RX0 133 (200000000), Cond.methodLink RX0 129 yX0_fixCount, Cond.instanceMethod yX0_fixCount, Cond.selects RX0 yX0_fixCount yX0_fixCount, Cond.code yX0_fixCount cX0_fixCount 3 (some .int), Cond.methodLink RL 76 yX1_setFix]
set_option maxRecDepth 20000 in
theorem wsL_qi14_2 : ∀ w ∈ wsL_q14_2, w ∈ lw_tbl := fun w h => (goodIn_p wsL_q14_2 [274, 280] (by decide +kernel) (by decide +kernel) w h).1
theorem wsL_ri14 : ∀ w ∈ wsL_law_r14, w ∈ lw_tbl := show ∀ w ∈ (wsL_q14_0 ++ (wsL_q14_1 ++ wsL_q14_2)), w ∈ lw_tbl from List.forall_mem_append.mpr ⟨wsL_qi14_0, List.forall_mem_append.mpr ⟨wsL_qi14_1, wsL_qi14_2⟩⟩
def wsL_q15_0 : List Cond := [Cond.instanceMethod yX1_setFix, Cond.selects RX1 yX1_setFix yX1_setFix, Cond.code yX1_setFix cX1_setFix 4 (some .long), Cond.constantLong RX1 129 (-9000000000000000003), Cond.constant RX1 131 (-200000000), Cond.constant RX1 132 (200000000), Cond.methodLink RX1 133 yX1_fixMany, Cond.instanceMethod yX1_fixMany]
set_option maxRecDepth 20000 in
theorem wsL_qi15_0 : ∀ w ∈ wsL_q15_0, w ∈ lw_tbl := fun w h => (goodIn_p wsL_q15_0 [584] (by decide +kernel) (by decide +kernel) w h).1
def wsL_q15_1 : List Cond := [Cond.selects RX1 yX1_fixMany yX1_fixMany, Cond.code yX1_fixMany cX1_fixMany 3 (some .int), Cond.methodLink RL 77 yX0_removeFix, Cond.instanceMethod yX0_removeFix, Cond.selects RX0 yX0_removeFix yX0_removeFix, Cond.code yX0_removeFix cX0_removeFix 2 (some .long), Cond.methodLink RL 80 yX1_removeFix, Cond.instanceMethod yX1_removeFix]
set_option maxRecDepth 20000 in
theorem wsL_qi15_1 : ∀ w ∈ wsL_q15_1, w ∈ lw_tbl := fun w h => (goodIn_p wsL_q15_1 [591, 284] (by decide +kernel) (by decide +kernel) w h).1
def wsL_q15_2 : List Cond := [Cond.selects RX1 yX1_removeFix yX1_removeFix, Cond.code yX1_removeFix cX1_removeFix 2 (some .long), Cond.methodLink RL 81 yX0_reckonedNorth, Cond.instanceMethod yX0_reckonedNorth, Cond.selects RX0 yX0_reckonedNorth yX0_reckonedNorth, Cond.code yX0_reckonedNorth cX0_reckonedNorth 2 (some .long), Cond.methodLink RX0 134 yX0_momentExists, Cond.instanceMethod yX0_momentExists]
set_option maxRecDepth 20000 in
theorem wsL_qi15_2 : ∀ w ∈ wsL_q15_2, w ∈ lw_tbl := fun w h => (goodIn_p wsL_q15_2 [595, 288] (by decide +kernel) (by decide +kernel) w h).1
theorem wsL_ri15 : ∀ w ∈ wsL_law_r15, w ∈ lw_tbl := show ∀ w ∈ (wsL_q15_0 ++ (wsL_q15_1 ++ wsL_q15_2)), w ∈ lw_tbl from List.forall_mem_append.mpr ⟨wsL_qi15_0, List.forall_mem_append.mpr ⟨wsL_qi15_1, wsL_qi15_2⟩⟩
def wsL_q16_0 : List Cond := [Cond.selects RX0 yX0_momentExists yX0_momentExists, Cond.code yX0_momentExists cX0_momentExists 2 (some .boolean), Cond.methodLink RX0 137 yX0_reckoned, Cond.instanceMethod yX0_reckoned, Cond.selects RX0 yX0_reckoned yX0_reckoned, Cond.code yX0_reckoned cX0_reckoned 4 (some .long), Cond.methodLink RX0 160 yX0_lastFix, Cond.instanceMethod yX0_lastFix]
set_option maxRecDepth 20000 in
theorem wsL_qi16_0 : ∀ w ∈ wsL_q16_0, w ∈ lw_tbl := fun w h => (goodIn_p wsL_q16_0 [292, 296] (by decide +kernel) (by decide +kernel) w h).1
def wsL_q16_1 : List Cond := [Cond.selects RX0 yX0_lastFix yX0_lastFix, Cond.code yX0_lastFix cX0_lastFix 3 (some .int), Cond.methodLink RX0 173 yX0_fix, Cond.instanceMethod yX0_fix, Cond.selects RX0 yX0_fix yX0_fix, Cond.code yX0_fix cX0_fix 3 (some .int), Cond.methodLink RX0 176 yX0_legs, Cond.instanceMethod yX0_legs]
set_option maxRecDepth 20000 in
theorem wsL_qi16_1 : ∀ w ∈ wsL_q16_1, w ∈ lw_tbl := fun w h => (goodIn_p wsL_q16_1 [300, 304] (by decide +kernel) (by decide +kernel) w h).1
def wsL_q16_2 : List Cond := [Cond.selects RX0 yX0_legs yX0_legs, Cond.code yX0_legs cX0_legs 7 (some .long), Cond.methodLink RX0 184 yX0_movement, Cond.static yX0_movement, Cond.code yX0_movement cX0_movement 3 (some .long), Cond.fieldLink RX0 187 "TraverseBoard" "SIN" "[I", Cond.methodLink RX0 190 yJ9_floorMod_7cf53, Cond.static yJ9_floorMod_7cf53]
set_option maxRecDepth 20000 in
theorem wsL_qi16_2 : ∀ w ∈ wsL_q16_2, w ∈ lw_tbl := fun w h => (goodIn_p wsL_q16_2 [308, 311] (by decide +kernel) (by decide +kernel) w h).1
theorem wsL_ri16 : ∀ w ∈ wsL_law_r16, w ∈ lw_tbl := show ∀ w ∈ (wsL_q16_0 ++ (wsL_q16_1 ++ wsL_q16_2)), w ∈ lw_tbl from List.forall_mem_append.mpr ⟨wsL_qi16_0, List.forall_mem_append.mpr ⟨wsL_qi16_1, wsL_qi16_2⟩⟩
def wsL_q17_0 : List Cond := [Cond.initialized RJ9, Cond.code yJ9_floorMod_7cf53 cJ9_floorMod_7cf53 3 (some .int), Cond.methodLink RL 84 yX1_reckonedNorth, Cond.instanceMethod yX1_reckonedNorth, Cond.selects RX1 yX1_reckonedNorth yX1_reckonedNorth, Cond.code yX1_reckonedNorth cX1_reckonedNorth 2 (some .long), Cond.methodLink RX1 160 yX1_isMoment, Cond.instanceMethod yX1_isMoment]
set_option maxRecDepth 20000 in
theorem wsL_qi17_0 : ∀ w ∈ wsL_q17_0, w ∈ lw_tbl := fun w h => (goodIn_p wsL_q17_0 [316, 599] (by decide +kernel) (by decide +kernel) w h).1
def wsL_q17_1 : List Cond := [Cond.selects RX1 yX1_isMoment yX1_isMoment, Cond.code yX1_isMoment cX1_isMoment 2 (some .boolean), Cond.methodLink RX1 163 yX1_reckoned, Cond.instanceMethod yX1_reckoned, Cond.selects RX1 yX1_reckoned yX1_reckoned, Cond.code yX1_reckoned cX1_reckoned 3 (some .long), Cond.methodLink RX1 146 yX1_fixAt, Cond.instanceMethod yX1_fixAt]
set_option maxRecDepth 20000 in
theorem wsL_qi17_1 : ∀ w ∈ wsL_q17_1, w ∈ lw_tbl := fun w h => (goodIn_p wsL_q17_1 [603, 607] (by decide +kernel) (by decide +kernel) w h).1
def wsL_q17_2 : List Cond := [Cond.selects RX1 yX1_fixAt yX1_fixAt, Cond.code yX1_fixAt cX1_fixAt 3 (some .int), Cond.methodLink RX1 149 yX1_gone, Cond.instanceMethod yX1_gone, Cond.selects RX1 yX1_gone yX1_gone, Cond.code yX1_gone cX1_gone 7 (some .long), Cond.methodLink RX1 139 yX1_fixed, Cond.instanceMethod yX1_fixed]
set_option maxRecDepth 20000 in
theorem wsL_qi17_2 : ∀ w ∈ wsL_q17_2, w ∈ lw_tbl := fun w h => (goodIn_p wsL_q17_2 [611, 615] (by decide +kernel) (by decide +kernel) w h).1
theorem wsL_ri17 : ∀ w ∈ wsL_law_r17, w ∈ lw_tbl := show ∀ w ∈ (wsL_q17_0 ++ (wsL_q17_1 ++ wsL_q17_2)), w ∈ lw_tbl from List.forall_mem_append.mpr ⟨wsL_qi17_0, List.forall_mem_append.mpr ⟨wsL_qi17_1, wsL_qi17_2⟩⟩
def wsL_q18_0 : List Cond := [Cond.selects RX1 yX1_fixed yX1_fixed, Cond.code yX1_fixed cX1_fixed 3 (some .long), Cond.methodLink RX1 143 yX1_leg, Cond.instanceMethod yX1_leg, Cond.selects RX1 yX1_leg yX1_leg, Cond.code yX1_leg cX1_leg 6 (some .long), Cond.methodLink RX1 136 yX1_cosine, Cond.static yX1_cosine]
set_option maxRecDepth 20000 in
theorem wsL_qi18_0 : ∀ w ∈ wsL_q18_0, w ∈ lw_tbl := fun w h => (goodIn_p wsL_q18_0 [619, 623] (by decide +kernel) (by decide +kernel) w h).1
def wsL_q18_1 : List Cond := [Cond.code yX1_cosine cX1_cosine 1 (some .int), Cond.methodLink RX1 44 yX1_sine, Cond.static yX1_sine, Cond.code yX1_sine cX1_sine 3 (some .int), Cond.methodLink RX1 40 yX1_quarter, Cond.static yX1_quarter, Cond.code yX1_quarter cX1_quarter 1 (some .int), Cond.methodLink RL 85 yX0_reckonedEast]
set_option maxRecDepth 20000 in
theorem wsL_qi18_1 : ∀ w ∈ wsL_q18_1, w ∈ lw_tbl := fun w h => (goodIn_p wsL_q18_1 [626, 629, 632] (by decide +kernel) (by decide +kernel) w h).1
def wsL_q18_2 : List Cond := [Cond.instanceMethod yX0_reckonedEast, Cond.selects RX0 yX0_reckonedEast yX0_reckonedEast, Cond.code yX0_reckonedEast cX0_reckonedEast 2 (some .long), Cond.methodLink RL 88 yX1_reckonedEast, Cond.instanceMethod yX1_reckonedEast, Cond.selects RX1 yX1_reckonedEast yX1_reckonedEast, Cond.code yX1_reckonedEast cX1_reckonedEast 2 (some .long), Cond.methodLink RL 89 yX0_correctedNorth]
set_option maxRecDepth 20000 in
theorem wsL_qi18_2 : ∀ w ∈ wsL_q18_2, w ∈ lw_tbl := fun w h => (goodIn_p wsL_q18_2 [320, 636] (by decide +kernel) (by decide +kernel) w h).1
theorem wsL_ri18 : ∀ w ∈ wsL_law_r18, w ∈ lw_tbl := show ∀ w ∈ (wsL_q18_0 ++ (wsL_q18_1 ++ wsL_q18_2)), w ∈ lw_tbl from List.forall_mem_append.mpr ⟨wsL_qi18_0, List.forall_mem_append.mpr ⟨wsL_qi18_1, wsL_qi18_2⟩⟩
def wsL_q19_0 : List Cond := [Cond.instanceMethod yX0_correctedNorth, Cond.selects RX0 yX0_correctedNorth yX0_correctedNorth, Cond.code yX0_correctedNorth cX0_correctedNorth 2 (some .long), Cond.methodLink RX0 141 yX0_corrected, Cond.instanceMethod yX0_corrected, Cond.selects RX0 yX0_corrected yX0_corrected, Cond.code yX0_corrected cX0_corrected 5 (some .long), Cond.methodLink RX0 163 yX0_firstFixAfter]
set_option maxRecDepth 20000 in
theorem wsL_qi19_0 : ∀ w ∈ wsL_q19_0, w ∈ lw_tbl := fun w h => (goodIn_p wsL_q19_0 [324, 328] (by decide +kernel) (by decide +kernel) w h).1
def wsL_q19_1 : List Cond := [Cond.instanceMethod yX0_firstFixAfter, Cond.selects RX0 yX0_firstFixAfter yX0_firstFixAfter, Cond.code yX0_firstFixAfter cX0_firstFixAfter 3 (some .int), Cond.methodLink RX0 166 yX0_error, Cond.instanceMethod yX0_error, Cond.selects RX0 yX0_error yX0_error, Cond.code yX0_error cX0_error 4 (some .long), Cond.methodLink RX0 179 yJ9_floorDiv_f86c9]
set_option maxRecDepth 20000 in
theorem wsL_qi19_1 : ∀ w ∈ wsL_q19_1, w ∈ lw_tbl := fun w h => (goodIn_p wsL_q19_1 [332, 336] (by decide +kernel) (by decide +kernel) w h).1
def wsL_q19_2 : List Cond := [Cond.static yJ9_floorDiv_f86c9, Cond.code yJ9_floorDiv_f86c9 cJ9_floorDiv_f86c9 6 (some .long), Cond.methodLink RL 92 yX1_correctedNorth, Cond.instanceMethod yX1_correctedNorth, Cond.selects RX1 yX1_correctedNorth yX1_correctedNorth, Cond.code yX1_correctedNorth cX1_correctedNorth 2 (some .long), Cond.methodLink RX1 166 yX1_corrected, Cond.instanceMethod yX1_corrected]
set_option maxRecDepth 20000 in
theorem wsL_qi19_2 : ∀ w ∈ wsL_q19_2, w ∈ lw_tbl := fun w h => (goodIn_p wsL_q19_2 [339, 640] (by decide +kernel) (by decide +kernel) w h).1
theorem wsL_ri19 : ∀ w ∈ wsL_law_r19, w ∈ lw_tbl := show ∀ w ∈ (wsL_q19_0 ++ (wsL_q19_1 ++ wsL_q19_2)), w ∈ lw_tbl from List.forall_mem_append.mpr ⟨wsL_qi19_0, List.forall_mem_append.mpr ⟨wsL_qi19_1, wsL_qi19_2⟩⟩
def wsL_q20_0 : List Cond := [Cond.selects RX1 yX1_corrected yX1_corrected, Cond.code yX1_corrected cX1_corrected 9 (some .long), Cond.methodLink RX1 153 yX1_fixBehind, Cond.instanceMethod yX1_fixBehind, Cond.selects RX1 yX1_fixBehind yX1_fixBehind, Cond.code yX1_fixBehind cX1_fixBehind 4 (some .int), Cond.methodLink RX1 156 yX1_floor, Cond.static yX1_floor]
set_option maxRecDepth 20000 in
theorem wsL_qi20_0 : ∀ w ∈ wsL_q20_0, w ∈ lw_tbl := fun w h => (goodIn_p wsL_q20_0 [644, 648] (by decide +kernel) (by decide +kernel) w h).1
def wsL_q20_1 : List Cond := [Cond.code yX1_floor cX1_floor 6 (some .long), Cond.methodLink RL 93 yX0_correctedEast, Cond.instanceMethod yX0_correctedEast, Cond.selects RX0 yX0_correctedEast yX0_correctedEast, Cond.code yX0_correctedEast cX0_correctedEast 2 (some .long), Cond.methodLink RL 96 yX1_correctedEast, Cond.instanceMethod yX1_correctedEast, Cond.selects RX1 yX1_correctedEast yX1_correctedEast]
set_option maxRecDepth 20000 in
theorem wsL_qi20_1 : ∀ w ∈ wsL_q20_1, w ∈ lw_tbl := fun w h => (goodIn_p wsL_q20_1 [651, 343] (by decide +kernel) (by decide +kernel) w h).1
def wsL_q20_2 : List Cond := [Cond.code yX1_correctedEast cX1_correctedEast 2 (some .long), Cond.methodLink RL 97 yX0_distance, Cond.instanceMethod yX0_distance, Cond.selects RX0 yX0_distance yX0_distance, Cond.code yX0_distance cX0_distance 3 (some .long), Cond.methodLink RX0 144 yX0_difference, Cond.instanceMethod yX0_difference, Cond.selects RX0 yX0_difference yX0_difference]
set_option maxRecDepth 20000 in
theorem wsL_qi20_2 : ∀ w ∈ wsL_q20_2, w ∈ lw_tbl := fun w h => (goodIn_p wsL_q20_2 [655, 347] (by decide +kernel) (by decide +kernel) w h).1
theorem wsL_ri20 : ∀ w ∈ wsL_law_r20, w ∈ lw_tbl := show ∀ w ∈ (wsL_q20_0 ++ (wsL_q20_1 ++ wsL_q20_2)), w ∈ lw_tbl from List.forall_mem_append.mpr ⟨wsL_qi20_0, List.forall_mem_append.mpr ⟨wsL_qi20_1, wsL_qi20_2⟩⟩
def wsL_q21_0 : List Cond := [Cond.code yX0_difference cX0_difference 4 (some .long), Cond.methodLink RX0 148 yX0_squares, Cond.static yX0_squares, Cond.code yX0_squares cX0_squares 4 (some .long), Cond.methodLink RX0 152 yX0_root, Cond.static yX0_root, Cond.code yX0_root cX0_root 7 (some .long), Cond.methodLink RL 100 yX1_distance]
set_option maxRecDepth 20000 in
theorem wsL_qi21_0 : ∀ w ∈ wsL_q21_0, w ∈ lw_tbl := fun w h => (goodIn_p wsL_q21_0 [351, 354, 357] (by decide +kernel) (by decide +kernel) w h).1
def wsL_q21_1 : List Cond := [Cond.instanceMethod yX1_distance, Cond.selects RX1 yX1_distance yX1_distance, Cond.code yX1_distance cX1_distance 3 (some .long), Cond.methodLink RX1 173 yX1_distanceNow, Cond.instanceMethod yX1_distanceNow, Cond.selects RX1 yX1_distanceNow yX1_distanceNow, Cond.code yX1_distanceNow cX1_distanceNow 15 (some .long), Cond.constantLong RX1 169 (2000000000)]
set_option maxRecDepth 20000 in
theorem wsL_qi21_1 : ∀ w ∈ wsL_q21_1, w ∈ lw_tbl := fun w h => (goodIn_p wsL_q21_1 [659, 663] (by decide +kernel) (by decide +kernel) w h).1
def wsL_q21_2 : List Cond := [Cond.constantLong RX1 171 (2), Cond.methodLink RL 101 yX0_bearing, Cond.instanceMethod yX0_bearing, Cond.selects RX0 yX0_bearing yX0_bearing, Cond.code yX0_bearing cX0_bearing 7 (some .long), Cond.methodLink RX0 156 yX0_nearestPoint, Cond.static yX0_nearestPoint, Cond.code yX0_nearestPoint cX0_nearestPoint 6 (some .int)]
set_option maxRecDepth 20000 in
theorem wsL_qi21_2 : ∀ w ∈ wsL_q21_2, w ∈ lw_tbl := fun w h => (goodIn_p wsL_q21_2 [361, 364] (by decide +kernel) (by decide +kernel) w h).1
theorem wsL_ri21 : ∀ w ∈ wsL_law_r21, w ∈ lw_tbl := show ∀ w ∈ (wsL_q21_0 ++ (wsL_q21_1 ++ wsL_q21_2)), w ∈ lw_tbl from List.forall_mem_append.mpr ⟨wsL_qi21_0, List.forall_mem_append.mpr ⟨wsL_qi21_1, wsL_qi21_2⟩⟩
def wsL_q22_0 : List Cond := [Cond.methodLink RX0 193 yX0_advance, Cond.static yX0_advance, Cond.code yX0_advance cX0_advance 5 (some .long), Cond.methodLink RL 104 yX1_bearing, Cond.instanceMethod yX1_bearing, Cond.selects RX1 yX1_bearing yX1_bearing, Cond.code yX1_bearing cX1_bearing 3 (some .long), Cond.methodLink RX1 176 yX1_bearingNow]
set_option maxRecDepth 20000 in
theorem wsL_qi22_0 : ∀ w ∈ wsL_q22_0, w ∈ lw_tbl := fun w h => (goodIn_p wsL_q22_0 [367, 669] (by decide +kernel) (by decide +kernel) w h).1
def wsL_q22_1 : List Cond := [Cond.instanceMethod yX1_bearingNow, Cond.selects RX1 yX1_bearingNow yX1_bearingNow, Cond.code yX1_bearingNow cX1_bearingNow 9 (some .long), Cond.methodLink RL 105 yX0_findLost, Cond.instanceMethod yX0_findLost, Cond.selects RX0 yX0_findLost yX0_findLost, Cond.code yX0_findLost cX0_findLost 4 (some .long), Cond.methodLink RX0 169 yX0_likeliest]
set_option maxRecDepth 20000 in
theorem wsL_qi22_1 : ∀ w ∈ wsL_q22_1, w ∈ lw_tbl := fun w h => (goodIn_p wsL_q22_1 [673, 371] (by decide +kernel) (by decide +kernel) w h).1
def wsL_q22_2 : List Cond := [Cond.static yX0_likeliest, Cond.code yX0_likeliest cX0_likeliest 13 (some .long), Cond.constantLong RX0 200 (1000), Cond.methodLink RX0 196 yX0_miss, Cond.static yX0_miss, Cond.code yX0_miss cX0_miss 6 (some .long), Cond.methodLink RL 108 yX1_findLost, Cond.instanceMethod yX1_findLost]
set_option maxRecDepth 20000 in
theorem wsL_qi22_2 : ∀ w ∈ wsL_q22_2, w ∈ lw_tbl := fun w h => (goodIn_p wsL_q22_2 [374, 377] (by decide +kernel) (by decide +kernel) w h).1
theorem wsL_ri22 : ∀ w ∈ wsL_law_r22, w ∈ lw_tbl := show ∀ w ∈ (wsL_q22_0 ++ (wsL_q22_1 ++ wsL_q22_2)), w ∈ lw_tbl from List.forall_mem_append.mpr ⟨wsL_qi22_0, List.forall_mem_append.mpr ⟨wsL_qi22_1, wsL_qi22_2⟩⟩
def wsL_q23_0 : List Cond := [Cond.selects RX1 yX1_findLost yX1_findLost, Cond.code yX1_findLost cX1_findLost 2 (some .long), Cond.methodLink RX1 189 yX1_lostNow, Cond.instanceMethod yX1_lostNow, Cond.selects RX1 yX1_lostNow yX1_lostNow, Cond.code yX1_lostNow cX1_lostNow 4 (some .long), Cond.methodLink RX1 183 yX1_isOtherLost, Cond.instanceMethod yX1_isOtherLost]
set_option maxRecDepth 20000 in
theorem wsL_qi23_0 : ∀ w ∈ wsL_q23_0, w ∈ lw_tbl := fun w h => (goodIn_p wsL_q23_0 [677, 681] (by decide +kernel) (by decide +kernel) w h).1
def wsL_q23_1 : List Cond := [Cond.selects RX1 yX1_isOtherLost yX1_isOtherLost, Cond.code yX1_isOtherLost cX1_isOtherLost 6 (some .boolean), Cond.methodLink RX1 186 yX1_search, Cond.instanceMethod yX1_search, Cond.selects RX1 yX1_search yX1_search, Cond.code yX1_search cX1_search 21 (some .long), Cond.constantLong RX1 179 (-1), Cond.constantLong RX1 181 (1000)]
set_option maxRecDepth 20000 in
theorem wsL_qi23_1 : ∀ w ∈ wsL_q23_1, w ∈ lw_tbl := fun w h => (goodIn_p wsL_q23_1 [685, 689] (by decide +kernel) (by decide +kernel) w h).1
def wsL_q23_2 : List Cond := [Cond.methodLink RL 109 yX0_digest, Cond.instanceMethod yX0_digest, Cond.selects RX0 yX0_digest yX0_digest, Cond.code yX0_digest cX0_digest 4 (some .long), Cond.constantLong RX0 202 (1811), Cond.methodLink RX0 204 yX0_mix, Cond.static yX0_mix, Cond.code yX0_mix cX0_mix 4 (some .long)]
set_option maxRecDepth 20000 in
theorem wsL_qi23_2 : ∀ w ∈ wsL_q23_2, w ∈ lw_tbl := fun w h => (goodIn_p wsL_q23_2 [382, 386] (by decide +kernel) (by decide +kernel) w h).1
theorem wsL_ri23 : ∀ w ∈ wsL_law_r23, w ∈ lw_tbl := show ∀ w ∈ (wsL_q23_0 ++ (wsL_q23_1 ++ wsL_q23_2)), w ∈ lw_tbl from List.forall_mem_append.mpr ⟨wsL_qi23_0, List.forall_mem_append.mpr ⟨wsL_qi23_1, wsL_qi23_2⟩⟩
def wsL_q24_0 : List Cond := [Cond.constantLong RX0 235 (31), Cond.methodLink RX0 207 yX0_mixPegs, Cond.instanceMethod yX0_mixPegs, Cond.selects RX0 yX0_mixPegs yX0_mixPegs, Cond.code yX0_mixPegs cX0_mixPegs 6 (some .long), Cond.methodLink RX0 229 yX0_pointOf, Cond.methodLink RX0 232 yX0_speedOf, Cond.methodLink RX0 210 yX0_mixMoments]
set_option maxRecDepth 20000 in
theorem wsL_qi24_0 : ∀ w ∈ wsL_q24_0, w ∈ lw_tbl := fun w h => (goodIn_p wsL_q24_0 [391] (by decide +kernel) (by decide +kernel) w h).1
def wsL_q24_1 : List Cond := [Cond.instanceMethod yX0_mixMoments, Cond.selects RX0 yX0_mixMoments yX0_mixMoments, Cond.code yX0_mixMoments cX0_mixMoments 6 (some .long), Cond.methodLink RX0 213 yX0_distance, Cond.methodLink RX0 216 yX0_bearing, Cond.methodLink RX0 219 yX0_firstLost, Cond.instanceMethod yX0_firstLost, Cond.selects RX0 yX0_firstLost yX0_firstLost]
set_option maxRecDepth 20000 in
theorem wsL_qi24_1 : ∀ w ∈ wsL_q24_1, w ∈ lw_tbl := fun w h => (goodIn_p wsL_q24_1 [397] (by decide +kernel) (by decide +kernel) w h).1
def wsL_q24_2 : List Cond := [Cond.code yX0_firstLost cX0_firstLost 2 (some .int), Cond.methodLink RX0 222 yX0_findLost, Cond.methodLink RX0 226 yX0_mixBuffer, Cond.instanceMethod yX0_mixBuffer, Cond.selects RX0 yX0_mixBuffer yX0_mixBuffer, Cond.code yX0_mixBuffer cX0_mixBuffer 6 (some .long), Cond.methodLink RL 112 yX1_digest, Cond.instanceMethod yX1_digest]
set_option maxRecDepth 20000 in
theorem wsL_qi24_2 : ∀ w ∈ wsL_q24_2, w ∈ lw_tbl := fun w h => (goodIn_p wsL_q24_2 [403, 408] (by decide +kernel) (by decide +kernel) w h).1
theorem wsL_ri24 : ∀ w ∈ wsL_law_r24, w ∈ lw_tbl := show ∀ w ∈ (wsL_q24_0 ++ (wsL_q24_1 ++ wsL_q24_2)), w ∈ lw_tbl from List.forall_mem_append.mpr ⟨wsL_qi24_0, List.forall_mem_append.mpr ⟨wsL_qi24_1, wsL_qi24_2⟩⟩
def wsL_q25_0 : List Cond := [Cond.selects RX1 yX1_digest yX1_digest, Cond.code yX1_digest cX1_digest 3 (some .long), Cond.constantLong RX1 198 (1811), Cond.fieldLink RX1 194 "TraverseBoardModel" "h" "J", Cond.methodLink RX1 200 yX1_mix, Cond.instanceMethod yX1_mix, Cond.selects RX1 yX1_mix yX1_mix, Cond.code yX1_mix cX1_mix 3 none]
set_option maxRecDepth 20000 in
theorem wsL_qi25_0 : ∀ w ∈ wsL_q25_0, w ∈ lw_tbl := fun w h => (goodIn_p wsL_q25_0 [695, 700] (by decide +kernel) (by decide +kernel) w h).1
def wsL_q25_1 : List Cond := [Cond.constantLong RX1 192 (31)]
set_option maxRecDepth 20000 in
theorem wsL_qi25_1 : ∀ w ∈ wsL_q25_1, w ∈ lw_tbl := fun w h => (goodIn_p wsL_q25_1 [] (by decide +kernel) (by decide +kernel) w h).1
theorem wsL_ri25 : ∀ w ∈ wsL_law_r25, w ∈ lw_tbl := show ∀ w ∈ (wsL_q25_0 ++ wsL_q25_1), w ∈ lw_tbl from List.forall_mem_append.mpr ⟨wsL_qi25_0, wsL_qi25_1⟩
theorem wsL_x0 : ∀ w ∈ wsX00, w ∈ lw_tbl := by decide +kernel
theorem wsL_x1 : ∀ w ∈ wsX10, w ∈ lw_tbl := by decide +kernel
theorem wsL_law_in : ∀ w ∈ wsL_law, w ∈ lw_tbl := List.forall_mem_append.mpr ⟨List.forall_mem_append.mpr ⟨List.forall_mem_append.mpr ⟨List.forall_mem_append.mpr ⟨wsL_ri1, List.forall_mem_append.mpr ⟨wsL_ri2, List.forall_mem_append.mpr ⟨wsL_ri3, List.forall_mem_append.mpr ⟨wsL_ri4, List.forall_mem_append.mpr ⟨wsL_ri5, List.forall_mem_append.mpr ⟨wsL_ri6, List.forall_mem_append.mpr ⟨wsL_ri7, List.forall_mem_append.mpr ⟨wsL_ri8, List.forall_mem_append.mpr ⟨wsL_ri9, List.forall_mem_append.mpr ⟨wsL_ri10, List.forall_mem_append.mpr ⟨wsL_ri11, List.forall_mem_append.mpr ⟨wsL_ri12, List.forall_mem_append.mpr ⟨wsL_ri13, List.forall_mem_append.mpr ⟨wsL_ri14, List.forall_mem_append.mpr ⟨wsL_ri15, List.forall_mem_append.mpr ⟨wsL_ri16, List.forall_mem_append.mpr ⟨wsL_ri17, List.forall_mem_append.mpr ⟨wsL_ri18, List.forall_mem_append.mpr ⟨wsL_ri19, List.forall_mem_append.mpr ⟨wsL_ri20, List.forall_mem_append.mpr ⟨wsL_ri21, List.forall_mem_append.mpr ⟨wsL_ri22, List.forall_mem_append.mpr ⟨wsL_ri23, List.forall_mem_append.mpr ⟨wsL_ri24, wsL_ri25⟩⟩⟩⟩⟩⟩⟩⟩⟩⟩⟩⟩⟩⟩⟩⟩⟩⟩⟩⟩⟩⟩⟩⟩, wsL_x0⟩, wsL_x1⟩, fun _ h => absurd h List.not_mem_nil⟩
theorem inlX0 : ∀ w ∈ wsX00, w ∈ wsL_law := fun _ h => List.mem_append_left _ (List.mem_append_left _ (List.mem_append_right _ h))
theorem inX0 : ∀ w ∈ wsX00, w ∈ lw_tbl := fun w h => wsL_law_in w (inlX0 w h)
theorem inlX1 : ∀ w ∈ wsX10, w ∈ wsL_law := fun _ h => List.mem_append_left _ (List.mem_append_right _ h)
theorem inX1 : ∀ w ∈ wsX10, w ∈ lw_tbl := fun w h => wsL_law_in w (inlX1 w h)
theorem inJ9 : ∀ w ∈ wsJ90, w ∈ lw_tbl := by decide +kernel
theorem inJ0 : ∀ w ∈ wsJ00, w ∈ lw_tbl := by decide +kernel
theorem inJ1 : ∀ w ∈ wsJ10, w ∈ lw_tbl := by decide +kernel
theorem inJ2 : ∀ w ∈ wsJ20, w ∈ lw_tbl := by decide +kernel
theorem inJ3 : ∀ w ∈ wsJ30, w ∈ lw_tbl := by decide +kernel
abbrev vwCl : List vw_C := [(RX0, TX0, 12), (RX1, TX1, 17)]

