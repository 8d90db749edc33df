abbrev cX5_init : ByteArray := prog_1_method_1_code
abbrev yX5_init : MethodName := ⟨"RecordTimes", "<init>", "()V"⟩
abbrev wsX5_init : List Cond := Cond.code yX5_init cX5_init 1 none :: wG
abbrev cX5_slot : ByteArray := prog_1_method_2_code
abbrev yX5_slot : MethodName := ⟨"RecordTimes", "slot", "(IIIJII)I"⟩
abbrev wsX5_slot : List Cond := Cond.code yX5_slot cX5_slot 9 (some .int) :: wG
abbrev cX5_mark : ByteArray := prog_1_method_3_code
abbrev yX5_mark : MethodName := ⟨"RecordTimes", "mark", "(III)I"⟩
abbrev wsX5_mark : List Cond := Cond.code yX5_mark cX5_mark 5 (some .int) :: wG
abbrev cX5_offset : ByteArray := prog_1_method_4_code
abbrev yX5_offset : MethodName := ⟨"RecordTimes", "offset", "(I)I"⟩
abbrev wsX5_offset : List Cond := Cond.code yX5_offset cX5_offset 2 (some .int) :: wG
abbrev cX5_contradiction : ByteArray := prog_1_method_5_code
abbrev yX5_contradiction : MethodName := ⟨"RecordTimes", "contradiction", "(I)I"⟩
abbrev wsX5_contradiction : List Cond := Cond.code yX5_contradiction cX5_contradiction 2 (some .int) :: wG
abbrev cX5_find : ByteArray := prog_1_method_6_code
abbrev yX5_find : MethodName := ⟨"RecordTimes", "find", "(IIIII)I"⟩
abbrev wsX5_find : List Cond := Cond.code yX5_find cX5_find 9 (some .int) :: wG
abbrev cX5_time : ByteArray := prog_1_method_7_code
abbrev yX5_time : MethodName := ⟨"RecordTimes", "time", "(I)I"⟩
abbrev wsX5_time : List Cond := Cond.code yX5_time cX5_time 2 (some .int) :: wG
abbrev cX5_sum : ByteArray := prog_1_method_8_code
abbrev yX5_sum : MethodName := ⟨"RecordTimes", "sum", "(I)I"⟩
abbrev wsX5_sum : List Cond := Cond.code yX5_sum cX5_sum 2 (some .int) :: wG
abbrev cX5_part : ByteArray := prog_1_method_9_code
abbrev yX5_part : MethodName := ⟨"RecordTimes", "part", "(III)I"⟩
abbrev wsX5_part : List Cond := Cond.code yX5_part cX5_part 4 (some .int) :: wG
abbrev cX5_size : ByteArray := prog_1_method_10_code
abbrev yX5_size : MethodName := ⟨"RecordTimes", "size", "(II)I"⟩
abbrev wsX5_size : List Cond := Cond.code yX5_size cX5_size 5 (some .int) :: wG
abbrev cX5_export : ByteArray := prog_1_method_11_code
abbrev yX5_export : MethodName := ⟨"RecordTimes", "export", "(II)I"⟩
abbrev wsX5_export : List Cond := Cond.code yX5_export cX5_export 5 (some .int) :: wG
abbrev cX5_hold : ByteArray := prog_1_method_12_code
abbrev yX5_hold : MethodName := ⟨"RecordTimes", "hold", "(IZ)V"⟩
abbrev wsX5_hold : List Cond := Cond.code yX5_hold cX5_hold 3 none :: wG
abbrev cX5_drop : ByteArray := prog_1_method_13_code
abbrev yX5_drop : MethodName := ⟨"RecordTimes", "drop", "(I)I"⟩
abbrev wsX5_drop : List Cond := Cond.code yX5_drop cX5_drop 2 (some .int) :: wG
abbrev cX5_certificate : ByteArray := prog_1_method_14_code
abbrev yX5_certificate : MethodName := ⟨"RecordTimes", "certificate", "(II)I"⟩
abbrev wsX5_certificate : List Cond := Cond.code yX5_certificate cX5_certificate 3 (some .int) :: wG
abbrev cX5_right : ByteArray := prog_1_method_15_code
abbrev yX5_right : MethodName := ⟨"RecordTimes", "right", "(IIZ)V"⟩
abbrev wsX5_right : List Cond := Cond.code yX5_right cX5_right 4 none :: wG
abbrev cX5_listen : ByteArray := prog_1_method_16_code
abbrev yX5_listen : MethodName := ⟨"RecordTimes", "listen", "(II)I"⟩
abbrev wsX5_listen : List Cond := Cond.code yX5_listen cX5_listen 4 (some .int) :: wG
abbrev cX5_row : ByteArray := prog_1_method_17_code
abbrev yX5_row : MethodName := ⟨"RecordTimes", "row", "(II)I"⟩
abbrev wsX5_row : List Cond := Cond.code yX5_row cX5_row 4 (some .int) :: wG
abbrev cX5_poke : ByteArray := prog_1_method_18_code
abbrev yX5_poke : MethodName := ⟨"RecordTimes", "poke", "(III)V"⟩
abbrev wsX5_poke : List Cond := Cond.code yX5_poke cX5_poke 4 none :: wG
abbrev cX5_verify : ByteArray := prog_1_method_19_code
abbrev yX5_verify : MethodName := ⟨"RecordTimes", "verify", "()I"⟩
abbrev wsX5_verify : List Cond := Cond.code yX5_verify cX5_verify 2 (some .int) :: wG
abbrev cX5_count : ByteArray := prog_1_method_20_code
abbrev yX5_count : MethodName := ⟨"RecordTimes", "count", "(I)I"⟩
abbrev wsX5_count : List Cond := Cond.code yX5_count cX5_count 2 (some .int) :: wG
abbrev cX5_checkSource : ByteArray := prog_1_method_21_code
abbrev yX5_checkSource : MethodName := ⟨"RecordTimes", "checkSource", "(I)V"⟩
abbrev wsX5_checkSource : List Cond := Cond.code yX5_checkSource cX5_checkSource 1 none :: wG
abbrev cX5_checkUnit : ByteArray := prog_1_method_22_code
abbrev yX5_checkUnit : MethodName := ⟨"RecordTimes", "checkUnit", "(I)V"⟩
abbrev wsX5_checkUnit : List Cond := Cond.code yX5_checkUnit cX5_checkUnit 1 none :: wG
abbrev cX5_checkIncident : ByteArray := prog_1_method_23_code
abbrev yX5_checkIncident : MethodName := ⟨"RecordTimes", "checkIncident", "(I)V"⟩
abbrev wsX5_checkIncident : List Cond := Cond.code yX5_checkIncident cX5_checkIncident 1 none :: wG
abbrev cX5_checkPerson : ByteArray := prog_1_method_24_code
abbrev yX5_checkPerson : MethodName := ⟨"RecordTimes", "checkPerson", "(I)V"⟩
abbrev wsX5_checkPerson : List Cond := Cond.code yX5_checkPerson cX5_checkPerson 1 none :: wG
abbrev cX5_checkTime : ByteArray := prog_1_method_25_code
abbrev yX5_checkTime : MethodName := ⟨"RecordTimes", "checkTime", "(I)V"⟩
abbrev wsX5_checkTime : List Cond := Cond.code yX5_checkTime cX5_checkTime 1 none :: wG
abbrev cX5_checkPlace : ByteArray := prog_1_method_26_code
abbrev yX5_checkPlace : MethodName := ⟨"RecordTimes", "checkPlace", "(I)V"⟩
abbrev wsX5_checkPlace : List Cond := Cond.code yX5_checkPlace cX5_checkPlace 1 none :: wG
abbrev cX5_checkSlot : ByteArray := prog_1_method_27_code
abbrev yX5_checkSlot : MethodName := ⟨"RecordTimes", "checkSlot", "(I)V"⟩
abbrev wsX5_checkSlot : List Cond := Cond.code yX5_checkSlot cX5_checkSlot 2 none :: wG
abbrev cX5_checkThere : ByteArray := prog_1_method_28_code
abbrev yX5_checkThere : MethodName := ⟨"RecordTimes", "checkThere", "(I)V"⟩
abbrev wsX5_checkThere : List Cond := Cond.code yX5_checkThere cX5_checkThere 2 none :: wG
abbrev cX6_init : ByteArray := prog_8_method_1_code
abbrev yX6_init : MethodName := ⟨"RecordTimesModel", "<init>", "()V"⟩
abbrev wsX6_init : List Cond := Cond.code yX6_init cX6_init 1 none :: wG
abbrev cX6_thrown : ByteArray := prog_8_method_2_code
abbrev yX6_thrown : MethodName := ⟨"RecordTimesModel", "thrown", "()I"⟩
abbrev wsX6_thrown : List Cond := Cond.code yX6_thrown cX6_thrown 1 (some .int) :: wG
abbrev cX6_throwing : ByteArray := prog_8_method_3_code
abbrev yX6_throwing : MethodName := ⟨"RecordTimesModel", "throwing", "(ZZZ)Z"⟩
abbrev wsX6_throwing : List Cond := Cond.code yX6_throwing cX6_throwing 4 (some .boolean) :: wG
abbrev cX6_in : ByteArray := prog_8_method_4_code
abbrev yX6_in : MethodName := ⟨"RecordTimesModel", "in", "(III)Z"⟩
abbrev wsX6_in : List Cond := Cond.code yX6_in cX6_in 3 (some .boolean) :: wG
abbrev cX6_isSlot : ByteArray := prog_8_method_5_code
abbrev yX6_isSlot : MethodName := ⟨"RecordTimesModel", "isSlot", "(I)Z"⟩
abbrev wsX6_isSlot : List Cond := Cond.code yX6_isSlot cX6_isSlot 2 (some .boolean) :: wG
abbrev cX6_with : ByteArray := prog_8_method_6_code
abbrev yX6_with : MethodName := ⟨"RecordTimesModel", "with", "(II)I"⟩
abbrev wsX6_with : List Cond := Cond.code yX6_with cX6_with 3 (some .int) :: wG
abbrev cX6_sumOf : ByteArray := prog_8_method_7_code
abbrev yX6_sumOf : MethodName := ⟨"RecordTimesModel", "sumOf", "(I)I"⟩
abbrev wsX6_sumOf : List Cond := Cond.code yX6_sumOf cX6_sumOf 4 (some .int) :: wG
abbrev cX6_slot : ByteArray := prog_8_method_8_code
abbrev yX6_slot : MethodName := ⟨"RecordTimesModel", "slot", "(IIIJII)I"⟩
abbrev wsX6_slot : List Cond := Cond.code yX6_slot cX6_slot 11 (some .int) :: wG
abbrev cX6_firstMark : ByteArray := prog_8_method_9_code
abbrev yX6_firstMark : MethodName := ⟨"RecordTimesModel", "firstMark", "(I)I"⟩
abbrev wsX6_firstMark : List Cond := Cond.code yX6_firstMark cX6_firstMark 3 (some .int) :: wG
abbrev cX6_offsetOf : ByteArray := prog_8_method_10_code
abbrev yX6_offsetOf : MethodName := ⟨"RecordTimesModel", "offsetOf", "(I)I"⟩
abbrev wsX6_offsetOf : List Cond := Cond.code yX6_offsetOf cX6_offsetOf 3 (some .int) :: wG
abbrev cX6_mark : ByteArray := prog_8_method_11_code
abbrev yX6_mark : MethodName := ⟨"RecordTimesModel", "mark", "(III)I"⟩
abbrev wsX6_mark : List Cond := Cond.code yX6_mark cX6_mark 4 (some .int) :: wG
abbrev cX6_offset : ByteArray := prog_8_method_12_code
abbrev yX6_offset : MethodName := ⟨"RecordTimesModel", "offset", "(I)I"⟩
abbrev wsX6_offset : List Cond := Cond.code yX6_offset cX6_offset 2 (some .int) :: wG
abbrev cX6_contradiction : ByteArray := prog_8_method_13_code
abbrev yX6_contradiction : MethodName := ⟨"RecordTimesModel", "contradiction", "(I)I"⟩
abbrev wsX6_contradiction : List Cond := Cond.code yX6_contradiction cX6_contradiction 5 (some .int) :: wG
abbrev cX6_begin : ByteArray := prog_8_method_14_code
abbrev yX6_begin : MethodName := ⟨"RecordTimesModel", "begin", "(I)I"⟩
abbrev wsX6_begin : List Cond := Cond.code yX6_begin cX6_begin 2 (some .int) :: wG
abbrev cX6_goesAhead : ByteArray := prog_8_method_15_code
abbrev yX6_goesAhead : MethodName := ⟨"RecordTimesModel", "goesAhead", "(II)Z"⟩
abbrev wsX6_goesAhead : List Cond := Cond.code yX6_goesAhead cX6_goesAhead 5 (some .boolean) :: wG
abbrev cX6_within : ByteArray := prog_8_method_16_code
abbrev yX6_within : MethodName := ⟨"RecordTimesModel", "within", "(III)I"⟩
abbrev wsX6_within : List Cond := Cond.code yX6_within cX6_within 6 (some .int) :: wG
abbrev cX6_fits : ByteArray := prog_8_method_17_code
abbrev yX6_fits : MethodName := ⟨"RecordTimesModel", "fits", "(IIIII)Z"⟩
abbrev wsX6_fits : List Cond := Cond.code yX6_fits cX6_fits 6 (some .boolean) :: wG
abbrev cX6_found : ByteArray := prog_8_method_18_code
abbrev yX6_found : MethodName := ⟨"RecordTimesModel", "found", "(IIIII)I"⟩
abbrev wsX6_found : List Cond := Cond.code yX6_found cX6_found 9 (some .int) :: wG
abbrev cX6_find : ByteArray := prog_8_method_19_code
abbrev yX6_find : MethodName := ⟨"RecordTimesModel", "find", "(IIIII)I"⟩
abbrev wsX6_find : List Cond := Cond.code yX6_find cX6_find 6 (some .int) :: wG
abbrev cX6_isGone : ByteArray := prog_8_method_20_code
abbrev yX6_isGone : MethodName := ⟨"RecordTimesModel", "isGone", "(I)Z"⟩
abbrev wsX6_isGone : List Cond := Cond.code yX6_isGone cX6_isGone 2 (some .boolean) :: wG
abbrev cX6_time : ByteArray := prog_8_method_21_code
abbrev yX6_time : MethodName := ⟨"RecordTimesModel", "time", "(I)I"⟩
abbrev wsX6_time : List Cond := Cond.code yX6_time cX6_time 2 (some .int) :: wG
abbrev cX6_sum : ByteArray := prog_8_method_22_code
abbrev yX6_sum : MethodName := ⟨"RecordTimesModel", "sum", "(I)I"⟩
abbrev wsX6_sum : List Cond := Cond.code yX6_sum cX6_sum 2 (some .int) :: wG
abbrev cX6_sumWithin : ByteArray := prog_8_method_23_code
abbrev yX6_sumWithin : MethodName := ⟨"RecordTimesModel", "sumWithin", "(IIII)I"⟩
abbrev wsX6_sumWithin : List Cond := Cond.code yX6_sumWithin cX6_sumWithin 7 (some .int) :: wG
abbrev cX6_part : ByteArray := prog_8_method_24_code
abbrev yX6_part : MethodName := ⟨"RecordTimesModel", "part", "(III)I"⟩
abbrev wsX6_part : List Cond := Cond.code yX6_part cX6_part 4 (some .int) :: wG
abbrev cX6_size : ByteArray := prog_8_method_25_code
abbrev yX6_size : MethodName := ⟨"RecordTimesModel", "size", "(II)I"⟩
abbrev wsX6_size : List Cond := Cond.code yX6_size cX6_size 5 (some .int) :: wG
abbrev cX6_export : ByteArray := prog_8_method_26_code
abbrev yX6_export : MethodName := ⟨"RecordTimesModel", "export", "(II)I"⟩
abbrev wsX6_export : List Cond := Cond.code yX6_export cX6_export 6 (some .int) :: wG
abbrev cX6_hold : ByteArray := prog_8_method_27_code
abbrev yX6_hold : MethodName := ⟨"RecordTimesModel", "hold", "(IZ)V"⟩
abbrev wsX6_hold : List Cond := Cond.code yX6_hold cX6_hold 4 none :: wG
abbrev cX6_drop : ByteArray := prog_8_method_28_code
abbrev yX6_drop : MethodName := ⟨"RecordTimesModel", "drop", "(I)I"⟩
abbrev wsX6_drop : List Cond := Cond.code yX6_drop cX6_drop 2 (some .int) :: wG
abbrev cX6_certificate : ByteArray := prog_8_method_29_code
abbrev yX6_certificate : MethodName := ⟨"RecordTimesModel", "certificate", "(II)I"⟩
abbrev wsX6_certificate : List Cond := Cond.code yX6_certificate cX6_certificate 3 (some .int) :: wG
abbrev cX6_right : ByteArray := prog_8_method_30_code
abbrev yX6_right : MethodName := ⟨"RecordTimesModel", "right", "(IIZ)V"⟩
abbrev wsX6_right : List Cond := Cond.code yX6_right cX6_right 4 none :: wG
abbrev cX6_listen : ByteArray := prog_8_method_31_code
abbrev yX6_listen : MethodName := ⟨"RecordTimesModel", "listen", "(II)I"⟩
abbrev wsX6_listen : List Cond := Cond.code yX6_listen cX6_listen 5 (some .int) :: wG
abbrev cX6_row : ByteArray := prog_8_method_32_code
abbrev yX6_row : MethodName := ⟨"RecordTimesModel", "row", "(II)I"⟩
abbrev wsX6_row : List Cond := Cond.code yX6_row cX6_row 4 (some .int) :: wG
abbrev cX6_poke : ByteArray := prog_8_method_33_code
abbrev yX6_poke : MethodName := ⟨"RecordTimesModel", "poke", "(III)V"⟩
abbrev wsX6_poke : List Cond := Cond.code yX6_poke cX6_poke 5 none :: wG
abbrev cX6_verify : ByteArray := prog_8_method_34_code
abbrev yX6_verify : MethodName := ⟨"RecordTimesModel", "verify", "()I"⟩
abbrev wsX6_verify : List Cond := Cond.code yX6_verify cX6_verify 2 (some .int) :: wG
abbrev cX6_count : ByteArray := prog_8_method_35_code
abbrev yX6_count : MethodName := ⟨"RecordTimesModel", "count", "(I)I"⟩
abbrev wsX6_count : List Cond := Cond.code yX6_count cX6_count 4 (some .int) :: wG
abbrev cX0_init : ByteArray := prog_2_method_1_code
abbrev yX0_init : MethodName := ⟨"RecordTimes$Certificates", "<init>", "()V"⟩
abbrev wsX0_init : List Cond := Cond.code yX0_init cX0_init 1 none :: wG
abbrev cX0_add : ByteArray := prog_2_method_2_code
abbrev yX0_add : MethodName := ⟨"RecordTimes$Certificates", "add", "(III)I"⟩
abbrev wsX0_add : List Cond := Cond.code yX0_add cX0_add 5 (some .int) :: wG
abbrev cX1_init : ByteArray := prog_3_method_1_code
abbrev yX1_init : MethodName := ⟨"RecordTimes$Line", "<init>", "(LRecordTimes$Slots;LRecordTimes$Marks;)V"⟩
abbrev wsX1_init : List Cond := Cond.code yX1_init cX1_init 3 none :: wG
abbrev cX1_insert : ByteArray := prog_3_method_2_code
abbrev yX1_insert : MethodName := ⟨"RecordTimes$Line", "insert", "(I)V"⟩
abbrev wsX1_insert : List Cond := Cond.code yX1_insert cX1_insert 2 none :: wG
abbrev cX1_remove : ByteArray := prog_3_method_3_code
abbrev yX1_remove : MethodName := ⟨"RecordTimes$Line", "remove", "(I)V"⟩
abbrev wsX1_remove : List Cond := Cond.code yX1_remove cX1_remove 4 none :: wG
abbrev cX1_sortAgain : ByteArray := prog_3_method_4_code
abbrev yX1_sortAgain : MethodName := ⟨"RecordTimes$Line", "sortAgain", "()V"⟩
abbrev wsX1_sortAgain : List Cond := Cond.code yX1_sortAgain cX1_sortAgain 2 none :: wG
abbrev cX1_beginOf : ByteArray := prog_3_method_5_code
abbrev yX1_beginOf : MethodName := ⟨"RecordTimes$Line", "beginOf", "(I)I"⟩
abbrev wsX1_beginOf : List Cond := Cond.code yX1_beginOf cX1_beginOf 2 (some .int) :: wG
abbrev cX1_bytesWithin : ByteArray := prog_3_method_6_code
abbrev yX1_bytesWithin : MethodName := ⟨"RecordTimes$Line", "bytesWithin", "(III)I"⟩
abbrev wsX1_bytesWithin : List Cond := Cond.code yX1_bytesWithin cX1_bytesWithin 4 (some .int) :: wG
abbrev cX1_sumWithin : ByteArray := prog_3_method_7_code
abbrev yX1_sumWithin : MethodName := ⟨"RecordTimes$Line", "sumWithin", "(IIII)I"⟩
abbrev wsX1_sumWithin : List Cond := Cond.code yX1_sumWithin cX1_sumWithin 5 (some .int) :: wG
abbrev cX1_bytesBefore : ByteArray := prog_3_method_8_code
abbrev yX1_bytesBefore : MethodName := ⟨"RecordTimes$Line", "bytesBefore", "(II)I"⟩
abbrev wsX1_bytesBefore : List Cond := Cond.code yX1_bytesBefore cX1_bytesBefore 5 (some .int) :: wG
abbrev cX1_settle : ByteArray := prog_3_method_9_code
abbrev yX1_settle : MethodName := ⟨"RecordTimes$Line", "settle", "(I)V"⟩
abbrev wsX1_settle : List Cond := Cond.code yX1_settle cX1_settle 4 none :: wG
abbrev cX1_isBefore : ByteArray := prog_3_method_10_code
abbrev yX1_isBefore : MethodName := ⟨"RecordTimes$Line", "isBefore", "(II)Z"⟩
abbrev wsX1_isBefore : List Cond := Cond.code yX1_isBefore cX1_isBefore 5 (some .boolean) :: wG
abbrev cX2_init : ByteArray := prog_4_method_1_code
abbrev yX2_init : MethodName := ⟨"RecordTimes$Listeners", "<init>", "()V"⟩
abbrev wsX2_init : List Cond := Cond.code yX2_init cX2_init 1 none :: wG
abbrev cX2_allow : ByteArray := prog_4_method_2_code
abbrev yX2_allow : MethodName := ⟨"RecordTimes$Listeners", "allow", "(IIZ)V"⟩
abbrev wsX2_allow : List Cond := Cond.code yX2_allow cX2_allow 4 none :: wG
abbrev cX2_mayHear : ByteArray := prog_4_method_3_code
abbrev yX2_mayHear : MethodName := ⟨"RecordTimes$Listeners", "mayHear", "(II)Z"⟩
abbrev wsX2_mayHear : List Cond := Cond.code yX2_mayHear cX2_mayHear 3 (some .boolean) :: wG
abbrev cX2_keepRow : ByteArray := prog_4_method_4_code
abbrev yX2_keepRow : MethodName := ⟨"RecordTimes$Listeners", "keepRow", "(IIZ)V"⟩
abbrev wsX2_keepRow : List Cond := Cond.code yX2_keepRow cX2_keepRow 5 none :: wG
abbrev cX2_isKept : ByteArray := prog_4_method_5_code
abbrev yX2_isKept : MethodName := ⟨"RecordTimes$Listeners", "isKept", "(I)Z"⟩
abbrev wsX2_isKept : List Cond := Cond.code yX2_isKept cX2_isKept 2 (some .boolean) :: wG
abbrev cX3_init : ByteArray := prog_5_method_1_code
abbrev yX3_init : MethodName := ⟨"RecordTimes$Marks", "<init>", "()V"⟩
abbrev wsX3_init : List Cond := Cond.code yX3_init cX3_init 2 none :: wG
abbrev cX3_add : ByteArray := prog_5_method_2_code
abbrev yX3_add : MethodName := ⟨"RecordTimes$Marks", "add", "(II)I"⟩
abbrev wsX3_add : List Cond := Cond.code yX3_add cX3_add 4 (some .int) :: wG
abbrev cX3_offsetOf : ByteArray := prog_5_method_3_code
abbrev yX3_offsetOf : MethodName := ⟨"RecordTimes$Marks", "offsetOf", "(I)I"⟩
abbrev wsX3_offsetOf : List Cond := Cond.code yX3_offsetOf cX3_offsetOf 3 (some .int) :: wG
abbrev cX3_contradictionAt : ByteArray := prog_5_method_4_code
abbrev yX3_contradictionAt : MethodName := ⟨"RecordTimes$Marks", "contradictionAt", "(I)I"⟩
abbrev wsX3_contradictionAt : List Cond := Cond.code yX3_contradictionAt cX3_contradictionAt 4 (some .int) :: wG
abbrev cX4_init : ByteArray := prog_6_method_1_code
abbrev yX4_init : MethodName := ⟨"RecordTimes$Slots", "<init>", "()V"⟩
abbrev wsX4_init : List Cond := Cond.code yX4_init cX4_init 1 none :: wG
abbrev cX4_add : ByteArray := prog_6_method_2_code
abbrev yX4_add : MethodName := ⟨"RecordTimes$Slots", "add", "(IIIJII)I"⟩
abbrev wsX4_add : List Cond := Cond.code yX4_add cX4_add 9 (some .int) :: wG
abbrev cX4_isOf : ByteArray := prog_6_method_3_code
abbrev yX4_isOf : MethodName := ⟨"RecordTimes$Slots", "isOf", "(III)Z"⟩
abbrev wsX4_isOf : List Cond := Cond.code yX4_isOf cX4_isOf 4 (some .boolean) :: wG
abbrev cX4_sumNow : ByteArray := prog_6_method_4_code
abbrev yX4_sumNow : MethodName := ⟨"RecordTimes$Slots", "sumNow", "(I)I"⟩
abbrev wsX4_sumNow : List Cond := Cond.code yX4_sumNow cX4_sumNow 2 (some .int) :: wG
abbrev cX4_sumOn : ByteArray := prog_6_method_5_code
abbrev yX4_sumOn : MethodName := ⟨"RecordTimes$Slots", "sumOn", "(IIII)I"⟩
abbrev wsX4_sumOn : List Cond := Cond.code yX4_sumOn cX4_sumOn 9 (some .int) :: wG
abbrev cX4_alter : ByteArray := prog_6_method_6_code
abbrev yX4_alter : MethodName := ⟨"RecordTimes$Slots", "alter", "(III)V"⟩
abbrev wsX4_alter : List Cond := Cond.code yX4_alter cX4_alter 4 none :: wG
abbrev cX4_shiftOf : ByteArray := prog_6_method_7_code
abbrev yX4_shiftOf : MethodName := ⟨"RecordTimes$Slots", "shiftOf", "(II)I"⟩
abbrev wsX4_shiftOf : List Cond := Cond.code yX4_shiftOf cX4_shiftOf 3 (some .int) :: wG
abbrev cL_slot : ByteArray := method_3_code
abbrev yL_slot : MethodName := ⟨"RecordTimesLaw", "slot", "(LRecordTimes;IIIJII[J)I"⟩
abbrev wsL_slot : List Cond := Cond.codeWith yL_slot cL_slot 10 (some .int) [(0, 18, 21, 13), (0, 18, 25, 15), (0, 18, 29, 17)] :: wG
abbrev cL_mark : ByteArray := method_4_code
abbrev yL_mark : MethodName := ⟨"RecordTimesLaw", "mark", "(LRecordTimes;III[J)I"⟩
abbrev wsL_mark : List Cond := Cond.codeWith yL_mark cL_mark 6 (some .int) [(0, 12, 15, 13), (0, 12, 19, 15), (0, 12, 23, 17)] :: wG
abbrev cL_offset : ByteArray := method_5_code
abbrev yL_offset : MethodName := ⟨"RecordTimesLaw", "offset", "(LRecordTimes;I[J)I"⟩
abbrev wsL_offset : List Cond := Cond.codeWith yL_offset cL_offset 4 (some .int) [(0, 9, 12, 13)] :: wG
abbrev cL_contradiction : ByteArray := method_6_code
abbrev yL_contradiction : MethodName := ⟨"RecordTimesLaw", "contradiction", "(LRecordTimes;I[J)I"⟩
abbrev wsL_contradiction : List Cond := Cond.codeWith yL_contradiction cL_contradiction 4 (some .int) [(0, 9, 12, 15)] :: wG
abbrev cL_find : ByteArray := method_7_code
abbrev yL_find : MethodName := ⟨"RecordTimesLaw", "find", "(LRecordTimes;IIIII[J)I"⟩
abbrev wsL_find : List Cond := Cond.codeWith yL_find cL_find 8 (some .int) [(0, 16, 19, 13), (0, 16, 23, 15)] :: wG
abbrev cL_time : ByteArray := method_8_code
abbrev yL_time : MethodName := ⟨"RecordTimesLaw", "time", "(LRecordTimes;I[J)I"⟩
abbrev wsL_time : List Cond := Cond.codeWith yL_time cL_time 4 (some .int) [(0, 9, 12, 13), (0, 9, 15, 37)] :: wG
abbrev cL_sum : ByteArray := method_9_code
abbrev yL_sum : MethodName := ⟨"RecordTimesLaw", "sum", "(LRecordTimes;I[J)I"⟩
abbrev wsL_sum : List Cond := Cond.codeWith yL_sum cL_sum 4 (some .int) [(0, 9, 12, 13), (0, 9, 15, 37)] :: wG
abbrev cL_part : ByteArray := method_10_code
abbrev yL_part : MethodName := ⟨"RecordTimesLaw", "part", "(LRecordTimes;III[J)I"⟩
abbrev wsL_part : List Cond := Cond.codeWith yL_part cL_part 6 (some .int) [(0, 12, 15, 13), (0, 12, 19, 37)] :: wG
abbrev cL_hold : ByteArray := method_11_code
abbrev yL_hold : MethodName := ⟨"RecordTimesLaw", "hold", "(LRecordTimes;IZ)I"⟩
abbrev wsL_hold : List Cond := Cond.codeWith yL_hold cL_hold 4 (some .int) [(0, 6, 9, 13), (0, 6, 12, 37)] :: wG
abbrev cL_drop : ByteArray := method_12_code
abbrev yL_drop : MethodName := ⟨"RecordTimesLaw", "drop", "(LRecordTimes;I[J)I"⟩
abbrev wsL_drop : List Cond := Cond.codeWith yL_drop cL_drop 4 (some .int) [(0, 9, 12, 13), (0, 9, 15, 37)] :: wG
abbrev cL_certificate : ByteArray := method_13_code
abbrev yL_certificate : MethodName := ⟨"RecordTimesLaw", "certificate", "(LRecordTimes;II[J)I"⟩
abbrev wsL_certificate : List Cond := Cond.codeWith yL_certificate cL_certificate 5 (some .int) [(0, 10, 13, 13)] :: wG
abbrev cL_right : ByteArray := method_14_code
abbrev yL_right : MethodName := ⟨"RecordTimesLaw", "right", "(LRecordTimes;IIZ)I"⟩
abbrev wsL_right : List Cond := Cond.codeWith yL_right cL_right 5 (some .int) [(0, 7, 10, 13)] :: wG
abbrev cL_listen : ByteArray := method_15_code
abbrev yL_listen : MethodName := ⟨"RecordTimesLaw", "listen", "(LRecordTimes;II[J)I"⟩
abbrev wsL_listen : List Cond := Cond.codeWith yL_listen cL_listen 5 (some .int) [(0, 10, 13, 13), (0, 10, 17, 37)] :: wG
abbrev cL_row : ByteArray := method_16_code
abbrev yL_row : MethodName := ⟨"RecordTimesLaw", "row", "(LRecordTimes;II[J)I"⟩
abbrev wsL_row : List Cond := Cond.codeWith yL_row cL_row 5 (some .int) [(0, 10, 13, 13)] :: wG
abbrev cL_poke : ByteArray := method_17_code
abbrev yL_poke : MethodName := ⟨"RecordTimesLaw", "poke", "(LRecordTimes;III)I"⟩
abbrev wsL_poke : List Cond := Cond.codeWith yL_poke cL_poke 5 (some .int) [(0, 7, 10, 13), (0, 7, 14, 15), (0, 7, 18, 37)] :: wG
abbrev cL_count : ByteArray := method_18_code
abbrev yL_count : MethodName := ⟨"RecordTimesLaw", "count", "(LRecordTimes;I[J)I"⟩
abbrev wsL_count : List Cond := Cond.codeWith yL_count cL_count 4 (some .int) [(0, 9, 12, 13)] :: wG
abbrev cL_law : ByteArray := code
theorem p_0 : Cond.selects "RecordTimes$Line" ⟨"RecordTimes$Line", "bytesBefore", "(II)I"⟩ ⟨"RecordTimes$Line", "bytesBefore", "(II)I"⟩ ∈ wG := wG_of (List.mem_of_getElem? (i := 0) (by decide +kernel)) (by decide +kernel)
theorem p_1 : Cond.selects "RecordTimes$Slots" ⟨"RecordTimes$Slots", "shiftOf", "(II)I"⟩ ⟨"RecordTimes$Slots", "shiftOf", "(II)I"⟩ ∈ wG := wG_of (List.mem_of_getElem? (i := 1) (by decide +kernel)) (by decide +kernel)
theorem p_2 : Cond.selects "java/lang/Throwable" ⟨"java/lang/Throwable", "fillInStackTrace", "(I)Ljava/lang/Throwable;"⟩ ⟨"java/lang/Throwable", "fillInStackTrace", "(I)Ljava/lang/Throwable;"⟩ ∈ wG := wG_of (List.mem_of_getElem? (i := 2) (by decide +kernel)) (by decide +kernel)
theorem p_3 : Cond.selects "RecordTimes$Line" ⟨"RecordTimes$Line", "settle", "(I)V"⟩ ⟨"RecordTimes$Line", "settle", "(I)V"⟩ ∈ wG := wG_of (List.mem_of_getElem? (i := 3) (by decide +kernel)) (by decide +kernel)
theorem p_4 : Cond.selects "RecordTimes$Line" ⟨"RecordTimes$Line", "isBefore", "(II)Z"⟩ ⟨"RecordTimes$Line", "isBefore", "(II)Z"⟩ ∈ wG := wG_of (List.mem_of_getElem? (i := 4) (by decide +kernel)) (by decide +kernel)
theorem p_5 : Cond.selects "RecordTimes" ⟨"RecordTimes", "checkSlot", "(I)V"⟩ ⟨"RecordTimes", "checkSlot", "(I)V"⟩ ∈ wG := wG_of (List.mem_of_getElem? (i := 5) (by decide +kernel)) (by decide +kernel)
theorem p_6 : Cond.selects "RecordTimes" ⟨"RecordTimes", "checkThere", "(I)V"⟩ ⟨"RecordTimes", "checkThere", "(I)V"⟩ ∈ wG := wG_of (List.mem_of_getElem? (i := 6) (by decide +kernel)) (by decide +kernel)
theorem p_7 : Cond.selects "RecordTimesModel" ⟨"RecordTimesModel", "throwing", "(ZZZ)Z"⟩ ⟨"RecordTimesModel", "throwing", "(ZZZ)Z"⟩ ∈ wG := wG_of (List.mem_of_getElem? (i := 7) (by decide +kernel)) (by decide +kernel)
theorem p_8 : Cond.selects "RecordTimesModel" ⟨"RecordTimesModel", "sumOf", "(I)I"⟩ ⟨"RecordTimesModel", "sumOf", "(I)I"⟩ ∈ wG := wG_of (List.mem_of_getElem? (i := 8) (by decide +kernel)) (by decide +kernel)
theorem p_9 : Cond.selects "RecordTimesModel" ⟨"RecordTimesModel", "offsetOf", "(I)I"⟩ ⟨"RecordTimesModel", "offsetOf", "(I)I"⟩ ∈ wG := wG_of (List.mem_of_getElem? (i := 9) (by decide +kernel)) (by decide +kernel)
theorem p_10 : Cond.selects "RecordTimesModel" ⟨"RecordTimesModel", "firstMark", "(I)I"⟩ ⟨"RecordTimesModel", "firstMark", "(I)I"⟩ ∈ wG := wG_of (List.mem_of_getElem? (i := 10) (by decide +kernel)) (by decide +kernel)
theorem p_11 : Cond.selects "RecordTimesModel" ⟨"RecordTimesModel", "found", "(IIIII)I"⟩ ⟨"RecordTimesModel", "found", "(IIIII)I"⟩ ∈ wG := wG_of (List.mem_of_getElem? (i := 11) (by decide +kernel)) (by decide +kernel)
theorem p_12 : Cond.selects "RecordTimesModel" ⟨"RecordTimesModel", "fits", "(IIIII)Z"⟩ ⟨"RecordTimesModel", "fits", "(IIIII)Z"⟩ ∈ wG := wG_of (List.mem_of_getElem? (i := 12) (by decide +kernel)) (by decide +kernel)
theorem p_13 : Cond.selects "RecordTimesModel" ⟨"RecordTimesModel", "within", "(III)I"⟩ ⟨"RecordTimesModel", "within", "(III)I"⟩ ∈ wG := wG_of (List.mem_of_getElem? (i := 13) (by decide +kernel)) (by decide +kernel)
theorem p_14 : Cond.selects "RecordTimesModel" ⟨"RecordTimesModel", "begin", "(I)I"⟩ ⟨"RecordTimesModel", "begin", "(I)I"⟩ ∈ wG := wG_of (List.mem_of_getElem? (i := 14) (by decide +kernel)) (by decide +kernel)
theorem p_15 : Cond.selects "RecordTimesModel" ⟨"RecordTimesModel", "goesAhead", "(II)Z"⟩ ⟨"RecordTimesModel", "goesAhead", "(II)Z"⟩ ∈ wG := wG_of (List.mem_of_getElem? (i := 15) (by decide +kernel)) (by decide +kernel)
theorem p_16 : Cond.selects "RecordTimesModel" ⟨"RecordTimesModel", "isSlot", "(I)Z"⟩ ⟨"RecordTimesModel", "isSlot", "(I)Z"⟩ ∈ wG := wG_of (List.mem_of_getElem? (i := 16) (by decide +kernel)) (by decide +kernel)
theorem p_17 : Cond.selects "RecordTimesModel" ⟨"RecordTimesModel", "isGone", "(I)Z"⟩ ⟨"RecordTimesModel", "isGone", "(I)Z"⟩ ∈ wG := wG_of (List.mem_of_getElem? (i := 17) (by decide +kernel)) (by decide +kernel)
theorem p_18 : Cond.selects "RecordTimesModel" ⟨"RecordTimesModel", "sumWithin", "(IIII)I"⟩ ⟨"RecordTimesModel", "sumWithin", "(IIII)I"⟩ ∈ wG := wG_of (List.mem_of_getElem? (i := 18) (by decide +kernel)) (by decide +kernel)
theorem q_0 : (Jvm.Cond.initialized "RecordTimesLaw") ∈ wG := wG_of (List.mem_of_getElem? (i := 19) (by decide +kernel)) (by decide +kernel)
theorem q_1 : (Jvm.Cond.initialized "RecordTimes") ∈ wG := wG_of (List.mem_of_getElem? (i := 20) (by decide +kernel)) (by decide +kernel)
theorem q_2 : (Jvm.Cond.initialized "RecordTimes$Slots") ∈ wG := wG_of (List.mem_of_getElem? (i := 21) (by decide +kernel)) (by decide +kernel)
theorem q_3 : (Jvm.Cond.initialized "RecordTimes$Marks") ∈ wG := wG_of (List.mem_of_getElem? (i := 22) (by decide +kernel)) (by decide +kernel)
theorem q_4 : (Jvm.Cond.initialized "RecordTimes$Line") ∈ wG := wG_of (List.mem_of_getElem? (i := 23) (by decide +kernel)) (by decide +kernel)
theorem q_5 : (Jvm.Cond.initialized "RecordTimes$Certificates") ∈ wG := wG_of (List.mem_of_getElem? (i := 24) (by decide +kernel)) (by decide +kernel)
theorem q_6 : (Jvm.Cond.initialized "RecordTimes$Listeners") ∈ wG := wG_of (List.mem_of_getElem? (i := 25) (by decide +kernel)) (by decide +kernel)
theorem q_7 : (Jvm.Cond.initialized "RecordTimesModel") ∈ wG := wG_of (List.mem_of_getElem? (i := 26) (by decide +kernel)) (by decide +kernel)
theorem q_8 : (Jvm.Cond.initialized "java/lang/Throwable") ∈ wG := wG_of (List.mem_of_getElem? (i := 27) (by decide +kernel)) (by decide +kernel)
theorem q_9 : (Jvm.Cond.initialized "java/lang/Exception") ∈ wG := wG_of (List.mem_of_getElem? (i := 28) (by decide +kernel)) (by decide +kernel)
theorem q_10 : (Jvm.Cond.initialized "java/lang/RuntimeException") ∈ wG := wG_of (List.mem_of_getElem? (i := 29) (by decide +kernel)) (by decide +kernel)
theorem q_11 : (Jvm.Cond.initialized "java/lang/IllegalArgumentException") ∈ wG := wG_of (List.mem_of_getElem? (i := 30) (by decide +kernel)) (by decide +kernel)
theorem q_12 : (Jvm.Cond.initialized "java/lang/IndexOutOfBoundsException") ∈ wG := wG_of (List.mem_of_getElem? (i := 31) (by decide +kernel)) (by decide +kernel)
theorem q_13 : (Jvm.Cond.initialized "java/lang/UnsupportedOperationException") ∈ wG := wG_of (List.mem_of_getElem? (i := 32) (by decide +kernel)) (by decide +kernel)
theorem q_14 : (Jvm.Cond.initialized "java/lang/Math") ∈ wG := wG_of (List.mem_of_getElem? (i := 33) (by decide +kernel)) (by decide +kernel)
theorem q_15 : (Jvm.Cond.initialized "java/lang/IllegalStateException") ∈ wG := wG_of (List.mem_of_getElem? (i := 34) (by decide +kernel)) (by decide +kernel)
theorem q_16 : (Jvm.Cond.classLink "RecordTimesLaw" (8 : Nat) "RecordTimes") ∈ wG := wG_of (List.mem_of_getElem? (i := 35) (by decide +kernel)) (by decide +kernel)
theorem q_17 : (Jvm.Cond.instantiable "RecordTimes" (6 : Nat)) ∈ wG := wG_of (List.mem_of_getElem? (i := 36) (by decide +kernel)) (by decide +kernel)
theorem q_18 : (Jvm.Cond.methodLink "RecordTimesLaw" (73 : Nat) ({ cls := "RecordTimes", name := "<init>", desc := "()V" } : Jvm.MethodName)) ∈ wG := wG_of (List.mem_of_getElem? (i := 37) (by decide +kernel)) (by decide +kernel)
theorem q_19 : (Jvm.Cond.instanceMethod ({ cls := "RecordTimes", name := "<init>", desc := "()V" } : Jvm.MethodName)) ∈ wG := wG_of (List.mem_of_getElem? (i := 38) (by decide +kernel)) (by decide +kernel)
theorem q_20 : (Jvm.Cond.code ({ cls := "RecordTimes", name := "<init>", desc := "()V" } : Jvm.MethodName) prog_1_method_1_code (1 : Nat) (Option.none : Option Jvm.ClassFile.FieldType)) ∈ wG := wG_of (List.mem_of_getElem? (i := 39) (by decide +kernel)) (by decide +kernel)
theorem q_21 : (Jvm.Cond.methodLink "RecordTimes" (1 : Nat) ({ cls := "java/lang/Object", name := "<init>", desc := "()V" } : Jvm.MethodName)) ∈ wG := wG_of (List.mem_of_getElem? (i := 40) (by decide +kernel)) (by decide +kernel)
theorem q_22 : (Jvm.Cond.instanceMethod ({ cls := "java/lang/Object", name := "<init>", desc := "()V" } : Jvm.MethodName)) ∈ wG := wG_of (List.mem_of_getElem? (i := 41) (by decide +kernel)) (by decide +kernel)
theorem q_23 : (Jvm.Cond.code ({ cls := "java/lang/Object", name := "<init>", desc := "()V" } : Jvm.MethodName) object_method_1_code (1 : Nat) (Option.none : Option Jvm.ClassFile.FieldType)) ∈ wG := wG_of (List.mem_of_getElem? (i := 42) (by decide +kernel)) (by decide +kernel)
theorem q_24 : (Jvm.Cond.classLink "RecordTimes" (7 : Nat) "RecordTimes$Slots") ∈ wG := wG_of (List.mem_of_getElem? (i := 43) (by decide +kernel)) (by decide +kernel)
theorem q_25 : (Jvm.Cond.instantiable "RecordTimes$Slots" (9 : Nat)) ∈ wG := wG_of (List.mem_of_getElem? (i := 44) (by decide +kernel)) (by decide +kernel)
theorem q_27 : (Jvm.Cond.instanceMethod ({ cls := "RecordTimes$Slots", name := "<init>", desc := "()V" } : Jvm.MethodName)) ∈ wG := wG_of (List.mem_of_getElem? (i := 46) (by decide +kernel)) (by decide +kernel)
theorem q_28 : (Jvm.Cond.code ({ cls := "RecordTimes$Slots", name := "<init>", desc := "()V" } : Jvm.MethodName) prog_6_method_1_code (1 : Nat) (Option.none : Option Jvm.ClassFile.FieldType)) ∈ wG := wG_of (List.mem_of_getElem? (i := 47) (by decide +kernel)) (by decide +kernel)
theorem q_29 : (Jvm.Cond.methodLink "RecordTimes$Slots" (3 : Nat) ({ cls := "java/lang/Object", name := "<init>", desc := "()V" } : Jvm.MethodName)) ∈ wG := wG_of (List.mem_of_getElem? (i := 48) (by decide +kernel)) (by decide +kernel)
theorem q_30 : (Jvm.Cond.fieldLink "RecordTimes$Slots" (9 : Nat) "RecordTimes$Slots" "source" "[I") ∈ wG := wG_of (List.mem_of_getElem? (i := 49) (by decide +kernel)) (by decide +kernel)
theorem q_31 : (Jvm.Cond.fieldLink "RecordTimes$Line" (36 : Nat) "RecordTimes$Slots" "source" "[I") ∈ wG := wG_of (List.mem_of_getElem? (i := 50) (by decide +kernel)) (by decide +kernel)
theorem q_32 : (Jvm.Cond.fieldLink "RecordTimes$Slots" (15 : Nat) "RecordTimes$Slots" "clock" "[I") ∈ wG := wG_of (List.mem_of_getElem? (i := 51) (by decide +kernel)) (by decide +kernel)
theorem q_33 : (Jvm.Cond.fieldLink "RecordTimes$Line" (31 : Nat) "RecordTimes$Slots" "clock" "[I") ∈ wG := wG_of (List.mem_of_getElem? (i := 52) (by decide +kernel)) (by decide +kernel)
theorem q_34 : (Jvm.Cond.fieldLink "RecordTimes$Slots" (18 : Nat) "RecordTimes$Slots" "length" "[I") ∈ wG := wG_of (List.mem_of_getElem? (i := 53) (by decide +kernel)) (by decide +kernel)
theorem q_35 : (Jvm.Cond.fieldLink "RecordTimes$Line" (61 : Nat) "RecordTimes$Slots" "length" "[I") ∈ wG := wG_of (List.mem_of_getElem? (i := 54) (by decide +kernel)) (by decide +kernel)
theorem q_36 : (Jvm.Cond.fieldLink "RecordTimes" (206 : Nat) "RecordTimes$Slots" "length" "[I") ∈ wG := wG_of (List.mem_of_getElem? (i := 55) (by decide +kernel)) (by decide +kernel)
theorem q_37 : (Jvm.Cond.fieldLink "RecordTimes$Slots" (21 : Nat) "RecordTimes$Slots" "bytes" "[J") ∈ wG := wG_of (List.mem_of_getElem? (i := 56) (by decide +kernel)) (by decide +kernel)
theorem q_38 : (Jvm.Cond.fieldLink "RecordTimes$Slots" (25 : Nat) "RecordTimes$Slots" "unit" "[I") ∈ wG := wG_of (List.mem_of_getElem? (i := 57) (by decide +kernel)) (by decide +kernel)
theorem q_39 : (Jvm.Cond.fieldLink "RecordTimes$Slots" (28 : Nat) "RecordTimes$Slots" "incident" "[I") ∈ wG := wG_of (List.mem_of_getElem? (i := 58) (by decide +kernel)) (by decide +kernel)
theorem q_40 : (Jvm.Cond.fieldLink "RecordTimes" (144 : Nat) "RecordTimes$Slots" "incident" "[I") ∈ wG := wG_of (List.mem_of_getElem? (i := 59) (by decide +kernel)) (by decide +kernel)
theorem q_41 : (Jvm.Cond.fieldLink "RecordTimes$Slots" (31 : Nat) "RecordTimes$Slots" "keptSum" "[I") ∈ wG := wG_of (List.mem_of_getElem? (i := 60) (by decide +kernel)) (by decide +kernel)
theorem q_42 : (Jvm.Cond.fieldLink "RecordTimes" (155 : Nat) "RecordTimes$Slots" "keptSum" "[I") ∈ wG := wG_of (List.mem_of_getElem? (i := 61) (by decide +kernel)) (by decide +kernel)
theorem q_43 : (Jvm.Cond.fieldLink "RecordTimes$Slots" (34 : Nat) "RecordTimes$Slots" "there" "[Z") ∈ wG := wG_of (List.mem_of_getElem? (i := 62) (by decide +kernel)) (by decide +kernel)
theorem q_44 : (Jvm.Cond.fieldLink "RecordTimes" (149 : Nat) "RecordTimes$Slots" "there" "[Z") ∈ wG := wG_of (List.mem_of_getElem? (i := 63) (by decide +kernel)) (by decide +kernel)
theorem q_45 : (Jvm.Cond.fieldLink "RecordTimes$Slots" (38 : Nat) "RecordTimes$Slots" "made" "I") ∈ wG := wG_of (List.mem_of_getElem? (i := 64) (by decide +kernel)) (by decide +kernel)
theorem q_46 : (Jvm.Cond.fieldLink "RecordTimes" (70 : Nat) "RecordTimes$Slots" "made" "I") ∈ wG := wG_of (List.mem_of_getElem? (i := 65) (by decide +kernel)) (by decide +kernel)
theorem q_66 : (Jvm.Cond.arrayClass Jvm.ClassFile.FieldType.int) ∈ wG := wG_of (List.mem_of_getElem? (i := 85) (by decide +kernel)) (by decide +kernel)
theorem q_67 : (Jvm.Cond.arrayClass Jvm.ClassFile.FieldType.long) ∈ wG := wG_of (List.mem_of_getElem? (i := 86) (by decide +kernel)) (by decide +kernel)
theorem q_68 : (Jvm.Cond.arrayClass Jvm.ClassFile.FieldType.boolean) ∈ wG := wG_of (List.mem_of_getElem? (i := 87) (by decide +kernel)) (by decide +kernel)
theorem q_69 : (Jvm.Cond.classLink "RecordTimes" (16 : Nat) "RecordTimes$Marks") ∈ wG := wG_of (List.mem_of_getElem? (i := 88) (by decide +kernel)) (by decide +kernel)
theorem q_70 : (Jvm.Cond.instantiable "RecordTimes$Marks" (4 : Nat)) ∈ wG := wG_of (List.mem_of_getElem? (i := 89) (by decide +kernel)) (by decide +kernel)
theorem q_71 : (Jvm.Cond.methodLink "RecordTimes" (18 : Nat) ({ cls := "RecordTimes$Marks", name := "<init>", desc := "()V" } : Jvm.MethodName)) ∈ wG := wG_of (List.mem_of_getElem? (i := 90) (by decide +kernel)) (by decide +kernel)
theorem q_72 : (Jvm.Cond.instanceMethod ({ cls := "RecordTimes$Marks", name := "<init>", desc := "()V" } : Jvm.MethodName)) ∈ wG := wG_of (List.mem_of_getElem? (i := 91) (by decide +kernel)) (by decide +kernel)
theorem q_73 : (Jvm.Cond.code ({ cls := "RecordTimes$Marks", name := "<init>", desc := "()V" } : Jvm.MethodName) prog_5_method_1_code (2 : Nat) (Option.none : Option Jvm.ClassFile.FieldType)) ∈ wG := wG_of (List.mem_of_getElem? (i := 92) (by decide +kernel)) (by decide +kernel)
theorem q_74 : (Jvm.Cond.methodLink "RecordTimes$Marks" (3 : Nat) ({ cls := "java/lang/Object", name := "<init>", desc := "()V" } : Jvm.MethodName)) ∈ wG := wG_of (List.mem_of_getElem? (i := 93) (by decide +kernel)) (by decide +kernel)
theorem q_75 : (Jvm.Cond.fieldLink "RecordTimes$Marks" (9 : Nat) "RecordTimes$Marks" "source" "[I") ∈ wG := wG_of (List.mem_of_getElem? (i := 94) (by decide +kernel)) (by decide +kernel)
theorem q_76 : (Jvm.Cond.fieldLink "RecordTimes$Marks" (15 : Nat) "RecordTimes$Marks" "difference" "[I") ∈ wG := wG_of (List.mem_of_getElem? (i := 95) (by decide +kernel)) (by decide +kernel)
theorem q_77 : (Jvm.Cond.fieldLink "RecordTimes$Marks" (18 : Nat) "RecordTimes$Marks" "first" "[I") ∈ wG := wG_of (List.mem_of_getElem? (i := 96) (by decide +kernel)) (by decide +kernel)
theorem q_78 : (Jvm.Cond.fieldLink "RecordTimes" (92 : Nat) "RecordTimes$Marks" "first" "[I") ∈ wG := wG_of (List.mem_of_getElem? (i := 97) (by decide +kernel)) (by decide +kernel)
theorem q_79 : (Jvm.Cond.fieldLink "RecordTimes$Marks" (21 : Nat) "RecordTimes$Marks" "made" "I") ∈ wG := wG_of (List.mem_of_getElem? (i := 98) (by decide +kernel)) (by decide +kernel)
theorem q_80 : (Jvm.Cond.fieldLink "RecordTimes" (86 : Nat) "RecordTimes$Marks" "made" "I") ∈ wG := wG_of (List.mem_of_getElem? (i := 99) (by decide +kernel)) (by decide +kernel)
theorem q_90 : (Jvm.Cond.classLink "RecordTimes" (23 : Nat) "RecordTimes$Line") ∈ wG := wG_of (List.mem_of_getElem? (i := 109) (by decide +kernel)) (by decide +kernel)
theorem q_91 : (Jvm.Cond.instantiable "RecordTimes$Line" (4 : Nat)) ∈ wG := wG_of (List.mem_of_getElem? (i := 110) (by decide +kernel)) (by decide +kernel)
theorem q_92 : (Jvm.Cond.methodLink "RecordTimes" (25 : Nat) ({ cls := "RecordTimes$Line", name := "<init>", desc := "(LRecordTimes$Slots;LRecordTimes$Marks;)V" } : Jvm.MethodName)) ∈ wG := wG_of (List.mem_of_getElem? (i := 111) (by decide +kernel)) (by decide +kernel)
theorem q_93 : (Jvm.Cond.instanceMethod ({ cls := "RecordTimes$Line", name := "<init>", desc := "(LRecordTimes$Slots;LRecordTimes$Marks;)V" } : Jvm.MethodName)) ∈ wG := wG_of (List.mem_of_getElem? (i := 112) (by decide +kernel)) (by decide +kernel)
theorem q_94 : (Jvm.Cond.code ({ cls := "RecordTimes$Line", name := "<init>", desc := "(LRecordTimes$Slots;LRecordTimes$Marks;)V" } : Jvm.MethodName) prog_3_method_1_code (3 : Nat) (Option.none : Option Jvm.ClassFile.FieldType)) ∈ wG := wG_of (List.mem_of_getElem? (i := 113) (by decide +kernel)) (by decide +kernel)
theorem q_95 : (Jvm.Cond.methodLink "RecordTimes$Line" (3 : Nat) ({ cls := "java/lang/Object", name := "<init>", desc := "()V" } : Jvm.MethodName)) ∈ wG := wG_of (List.mem_of_getElem? (i := 114) (by decide +kernel)) (by decide +kernel)
theorem q_96 : (Jvm.Cond.fieldLink "RecordTimes$Line" (9 : Nat) "RecordTimes$Line" "order" "[I") ∈ wG := wG_of (List.mem_of_getElem? (i := 115) (by decide +kernel)) (by decide +kernel)
theorem q_97 : (Jvm.Cond.fieldLink "RecordTimes" (112 : Nat) "RecordTimes$Line" "order" "[I") ∈ wG := wG_of (List.mem_of_getElem? (i := 116) (by decide +kernel)) (by decide +kernel)
theorem q_98 : (Jvm.Cond.fieldLink "RecordTimes$Line" (23 : Nat) "RecordTimes$Line" "length" "I") ∈ wG := wG_of (List.mem_of_getElem? (i := 117) (by decide +kernel)) (by decide +kernel)
theorem q_99 : (Jvm.Cond.fieldLink "RecordTimes" (109 : Nat) "RecordTimes$Line" "length" "I") ∈ wG := wG_of (List.mem_of_getElem? (i := 118) (by decide +kernel)) (by decide +kernel)
theorem q_100 : (Jvm.Cond.fieldLink "RecordTimes$Line" (15 : Nat) "RecordTimes$Line" "slots" "LRecordTimes$Slots;") ∈ wG := wG_of (List.mem_of_getElem? (i := 119) (by decide +kernel)) (by decide +kernel)
theorem q_101 : (Jvm.Cond.fieldLink "RecordTimes$Line" (19 : Nat) "RecordTimes$Line" "marks" "LRecordTimes$Marks;") ∈ wG := wG_of (List.mem_of_getElem? (i := 120) (by decide +kernel)) (by decide +kernel)
theorem q_111 : (Jvm.Cond.classLink "RecordTimes" (32 : Nat) "RecordTimes$Certificates") ∈ wG := wG_of (List.mem_of_getElem? (i := 130) (by decide +kernel)) (by decide +kernel)
theorem q_112 : (Jvm.Cond.instantiable "RecordTimes$Certificates" (4 : Nat)) ∈ wG := wG_of (List.mem_of_getElem? (i := 131) (by decide +kernel)) (by decide +kernel)
theorem q_114 : (Jvm.Cond.instanceMethod ({ cls := "RecordTimes$Certificates", name := "<init>", desc := "()V" } : Jvm.MethodName)) ∈ wG := wG_of (List.mem_of_getElem? (i := 133) (by decide +kernel)) (by decide +kernel)
theorem q_115 : (Jvm.Cond.code ({ cls := "RecordTimes$Certificates", name := "<init>", desc := "()V" } : Jvm.MethodName) prog_2_method_1_code (1 : Nat) (Option.none : Option Jvm.ClassFile.FieldType)) ∈ wG := wG_of (List.mem_of_getElem? (i := 134) (by decide +kernel)) (by decide +kernel)
theorem q_116 : (Jvm.Cond.methodLink "RecordTimes$Certificates" (3 : Nat) ({ cls := "java/lang/Object", name := "<init>", desc := "()V" } : Jvm.MethodName)) ∈ wG := wG_of (List.mem_of_getElem? (i := 135) (by decide +kernel)) (by decide +kernel)
theorem q_117 : (Jvm.Cond.fieldLink "RecordTimes$Certificates" (9 : Nat) "RecordTimes$Certificates" "slot" "[I") ∈ wG := wG_of (List.mem_of_getElem? (i := 136) (by decide +kernel)) (by decide +kernel)
theorem q_118 : (Jvm.Cond.fieldLink "RecordTimes" (166 : Nat) "RecordTimes$Certificates" "slot" "[I") ∈ wG := wG_of (List.mem_of_getElem? (i := 137) (by decide +kernel)) (by decide +kernel)
theorem q_119 : (Jvm.Cond.fieldLink "RecordTimes$Certificates" (15 : Nat) "RecordTimes$Certificates" "keptSum" "[I") ∈ wG := wG_of (List.mem_of_getElem? (i := 138) (by decide +kernel)) (by decide +kernel)
theorem q_120 : (Jvm.Cond.fieldLink "RecordTimes" (169 : Nat) "RecordTimes$Certificates" "keptSum" "[I") ∈ wG := wG_of (List.mem_of_getElem? (i := 139) (by decide +kernel)) (by decide +kernel)
theorem q_121 : (Jvm.Cond.fieldLink "RecordTimes$Certificates" (18 : Nat) "RecordTimes$Certificates" "lastSum" "[I") ∈ wG := wG_of (List.mem_of_getElem? (i := 140) (by decide +kernel)) (by decide +kernel)
theorem q_122 : (Jvm.Cond.fieldLink "RecordTimes" (170 : Nat) "RecordTimes$Certificates" "lastSum" "[I") ∈ wG := wG_of (List.mem_of_getElem? (i := 141) (by decide +kernel)) (by decide +kernel)
theorem q_123 : (Jvm.Cond.fieldLink "RecordTimes$Certificates" (21 : Nat) "RecordTimes$Certificates" "made" "I") ∈ wG := wG_of (List.mem_of_getElem? (i := 142) (by decide +kernel)) (by decide +kernel)
theorem q_124 : (Jvm.Cond.fieldLink "RecordTimes" (160 : Nat) "RecordTimes$Certificates" "made" "I") ∈ wG := wG_of (List.mem_of_getElem? (i := 143) (by decide +kernel)) (by decide +kernel)
theorem q_134 : (Jvm.Cond.classLink "RecordTimes" (39 : Nat) "RecordTimes$Listeners") ∈ wG := wG_of (List.mem_of_getElem? (i := 153) (by decide +kernel)) (by decide +kernel)
theorem q_135 : (Jvm.Cond.instantiable "RecordTimes$Listeners" (5 : Nat)) ∈ wG := wG_of (List.mem_of_getElem? (i := 154) (by decide +kernel)) (by decide +kernel)
theorem q_137 : (Jvm.Cond.instanceMethod ({ cls := "RecordTimes$Listeners", name := "<init>", desc := "()V" } : Jvm.MethodName)) ∈ wG := wG_of (List.mem_of_getElem? (i := 156) (by decide +kernel)) (by decide +kernel)
theorem q_138 : (Jvm.Cond.code ({ cls := "RecordTimes$Listeners", name := "<init>", desc := "()V" } : Jvm.MethodName) prog_4_method_1_code (1 : Nat) (Option.none : Option Jvm.ClassFile.FieldType)) ∈ wG := wG_of (List.mem_of_getElem? (i := 157) (by decide +kernel)) (by decide +kernel)
theorem q_139 : (Jvm.Cond.methodLink "RecordTimes$Listeners" (3 : Nat) ({ cls := "java/lang/Object", name := "<init>", desc := "()V" } : Jvm.MethodName)) ∈ wG := wG_of (List.mem_of_getElem? (i := 158) (by decide +kernel)) (by decide +kernel)
theorem q_140 : (Jvm.Cond.fieldLink "RecordTimes$Listeners" (9 : Nat) "RecordTimes$Listeners" "person" "[I") ∈ wG := wG_of (List.mem_of_getElem? (i := 159) (by decide +kernel)) (by decide +kernel)
theorem q_141 : (Jvm.Cond.fieldLink "RecordTimes" (197 : Nat) "RecordTimes$Listeners" "person" "[I") ∈ wG := wG_of (List.mem_of_getElem? (i := 160) (by decide +kernel)) (by decide +kernel)
theorem q_142 : (Jvm.Cond.fieldLink "RecordTimes$Listeners" (15 : Nat) "RecordTimes$Listeners" "slot" "[I") ∈ wG := wG_of (List.mem_of_getElem? (i := 161) (by decide +kernel)) (by decide +kernel)
theorem q_143 : (Jvm.Cond.fieldLink "RecordTimes" (200 : Nat) "RecordTimes$Listeners" "slot" "[I") ∈ wG := wG_of (List.mem_of_getElem? (i := 162) (by decide +kernel)) (by decide +kernel)
theorem q_144 : (Jvm.Cond.fieldLink "RecordTimes$Listeners" (18 : Nat) "RecordTimes$Listeners" "allowed" "[Z") ∈ wG := wG_of (List.mem_of_getElem? (i := 163) (by decide +kernel)) (by decide +kernel)
theorem q_145 : (Jvm.Cond.fieldLink "RecordTimes" (201 : Nat) "RecordTimes$Listeners" "allowed" "[Z") ∈ wG := wG_of (List.mem_of_getElem? (i := 164) (by decide +kernel)) (by decide +kernel)
theorem q_146 : (Jvm.Cond.fieldLink "RecordTimes$Listeners" (25 : Nat) "RecordTimes$Listeners" "rowsEver" "I") ∈ wG := wG_of (List.mem_of_getElem? (i := 165) (by decide +kernel)) (by decide +kernel)
theorem q_147 : (Jvm.Cond.fieldLink "RecordTimes" (216 : Nat) "RecordTimes$Listeners" "rowsEver" "I") ∈ wG := wG_of (List.mem_of_getElem? (i := 166) (by decide +kernel)) (by decide +kernel)
theorem q_148 : (Jvm.Cond.fieldLink "RecordTimes$Listeners" (22 : Nat) "RecordTimes$Listeners" "rights" "[Z") ∈ wG := wG_of (List.mem_of_getElem? (i := 167) (by decide +kernel)) (by decide +kernel)
theorem q_160 : (Jvm.Cond.fieldLink "RecordTimes" (10 : Nat) "RecordTimes" "slots" "LRecordTimes$Slots;") ∈ wG := wG_of (List.mem_of_getElem? (i := 179) (by decide +kernel)) (by decide +kernel)
theorem q_161 : (Jvm.Cond.fieldLink "RecordTimes" (19 : Nat) "RecordTimes" "marks" "LRecordTimes$Marks;") ∈ wG := wG_of (List.mem_of_getElem? (i := 180) (by decide +kernel)) (by decide +kernel)
theorem q_162 : (Jvm.Cond.fieldLink "RecordTimes" (28 : Nat) "RecordTimes" "line" "LRecordTimes$Line;") ∈ wG := wG_of (List.mem_of_getElem? (i := 181) (by decide +kernel)) (by decide +kernel)
theorem q_163 : (Jvm.Cond.fieldLink "RecordTimes" (35 : Nat) "RecordTimes" "certificates" "LRecordTimes$Certificates;") ∈ wG := wG_of (List.mem_of_getElem? (i := 182) (by decide +kernel)) (by decide +kernel)
theorem q_164 : (Jvm.Cond.fieldLink "RecordTimes" (42 : Nat) "RecordTimes" "listeners" "LRecordTimes$Listeners;") ∈ wG := wG_of (List.mem_of_getElem? (i := 183) (by decide +kernel)) (by decide +kernel)
theorem q_165 : (Jvm.Cond.fieldLink "RecordTimes" (46 : Nat) "RecordTimes" "held" "[Z") ∈ wG := wG_of (List.mem_of_getElem? (i := 184) (by decide +kernel)) (by decide +kernel)
theorem q_179 : (Jvm.Cond.methodLink "RecordTimesLaw" (113 : Nat) ({ cls := "RecordTimes", name := "size", desc := "(II)I" } : Jvm.MethodName)) ∈ wG := wG_of (List.mem_of_getElem? (i := 198) (by decide +kernel)) (by decide +kernel)
theorem q_180 : (Jvm.Cond.instanceMethod ({ cls := "RecordTimes", name := "size", desc := "(II)I" } : Jvm.MethodName)) ∈ wG := wG_of (List.mem_of_getElem? (i := 199) (by decide +kernel)) (by decide +kernel)
theorem q_181 : (Jvm.Cond.selects "RecordTimes" ({ cls := "RecordTimes", name := "size", desc := "(II)I" } : Jvm.MethodName) ({ cls := "RecordTimes", name := "size", desc := "(II)I" } : Jvm.MethodName)) ∈ wG := wG_of (List.mem_of_getElem? (i := 200) (by decide +kernel)) (by decide +kernel)
theorem q_182 : (Jvm.Cond.code ({ cls := "RecordTimes", name := "size", desc := "(II)I" } : Jvm.MethodName) prog_1_method_10_code (5 : Nat) (Option.some Jvm.ClassFile.FieldType.int)) ∈ wG := wG_of (List.mem_of_getElem? (i := 201) (by decide +kernel)) (by decide +kernel)
theorem q_183 : (Jvm.Cond.methodLink "RecordTimes" (119 : Nat) ({ cls := "RecordTimes$Line", name := "bytesWithin", desc := "(III)I" } : Jvm.MethodName)) ∈ wG := wG_of (List.mem_of_getElem? (i := 202) (by decide +kernel)) (by decide +kernel)
theorem q_184 : (Jvm.Cond.instanceMethod ({ cls := "RecordTimes$Line", name := "bytesWithin", desc := "(III)I" } : Jvm.MethodName)) ∈ wG := wG_of (List.mem_of_getElem? (i := 203) (by decide +kernel)) (by decide +kernel)
theorem q_185 : (Jvm.Cond.selects "RecordTimes$Line" ({ cls := "RecordTimes$Line", name := "bytesWithin", desc := "(III)I" } : Jvm.MethodName) ({ cls := "RecordTimes$Line", name := "bytesWithin", desc := "(III)I" } : Jvm.MethodName)) ∈ wG := wG_of (List.mem_of_getElem? (i := 204) (by decide +kernel)) (by decide +kernel)
theorem q_186 : (Jvm.Cond.code ({ cls := "RecordTimes$Line", name := "bytesWithin", desc := "(III)I" } : Jvm.MethodName) prog_3_method_6_code (4 : Nat) (Option.some Jvm.ClassFile.FieldType.int)) ∈ wG := wG_of (List.mem_of_getElem? (i := 205) (by decide +kernel)) (by decide +kernel)
theorem q_187 : (Jvm.Cond.methodLink "RecordTimes$Line" (45 : Nat) ({ cls := "RecordTimes$Line", name := "bytesBefore", desc := "(II)I" } : Jvm.MethodName)) ∈ wG := wG_of (List.mem_of_getElem? (i := 206) (by decide +kernel)) (by decide +kernel)
theorem q_189 : (Jvm.Cond.instanceMethod ({ cls := "RecordTimes$Line", name := "bytesBefore", desc := "(II)I" } : Jvm.MethodName)) ∈ wG := wG_of (List.mem_of_getElem? (i := 208) (by decide +kernel)) (by decide +kernel)
theorem q_190 : (Jvm.Cond.code ({ cls := "RecordTimes$Line", name := "bytesBefore", desc := "(II)I" } : Jvm.MethodName) prog_3_method_8_code (5 : Nat) (Option.some Jvm.ClassFile.FieldType.int)) ∈ wG := wG_of (List.mem_of_getElem? (i := 209) (by decide +kernel)) (by decide +kernel)
theorem q_191 : (Jvm.Cond.methodLink "RecordTimes$Line" (58 : Nat) ({ cls := "RecordTimes$Line", name := "beginOf", desc := "(I)I" } : Jvm.MethodName)) ∈ wG := wG_of (List.mem_of_getElem? (i := 210) (by decide +kernel)) (by decide +kernel)
theorem q_192 : (Jvm.Cond.instanceMethod ({ cls := "RecordTimes$Line", name := "beginOf", desc := "(I)I" } : Jvm.MethodName)) ∈ wG := wG_of (List.mem_of_getElem? (i := 211) (by decide +kernel)) (by decide +kernel)
theorem q_193 : (Jvm.Cond.selects "RecordTimes$Line" ({ cls := "RecordTimes$Line", name := "beginOf", desc := "(I)I" } : Jvm.MethodName) ({ cls := "RecordTimes$Line", name := "beginOf", desc := "(I)I" } : Jvm.MethodName)) ∈ wG := wG_of (List.mem_of_getElem? (i := 212) (by decide +kernel)) (by decide +kernel)
theorem q_194 : (Jvm.Cond.code ({ cls := "RecordTimes$Line", name := "beginOf", desc := "(I)I" } : Jvm.MethodName) prog_3_method_5_code (2 : Nat) (Option.some Jvm.ClassFile.FieldType.int)) ∈ wG := wG_of (List.mem_of_getElem? (i := 213) (by decide +kernel)) (by decide +kernel)
theorem q_195 : (Jvm.Cond.methodLink "RecordTimes$Line" (39 : Nat) ({ cls := "RecordTimes$Marks", name := "offsetOf", desc := "(I)I" } : Jvm.MethodName)) ∈ wG := wG_of (List.mem_of_getElem? (i := 214) (by decide +kernel)) (by decide +kernel)
theorem q_196 : (Jvm.Cond.instanceMethod ({ cls := "RecordTimes$Marks", name := "offsetOf", desc := "(I)I" } : Jvm.MethodName)) ∈ wG := wG_of (List.mem_of_getElem? (i := 215) (by decide +kernel)) (by decide +kernel)
theorem q_197 : (Jvm.Cond.selects "RecordTimes$Marks" ({ cls := "RecordTimes$Marks", name := "offsetOf", desc := "(I)I" } : Jvm.MethodName) ({ cls := "RecordTimes$Marks", name := "offsetOf", desc := "(I)I" } : Jvm.MethodName)) ∈ wG := wG_of (List.mem_of_getElem? (i := 216) (by decide +kernel)) (by decide +kernel)
theorem q_198 : (Jvm.Cond.code ({ cls := "RecordTimes$Marks", name := "offsetOf", desc := "(I)I" } : Jvm.MethodName) prog_5_method_3_code (3 : Nat) (Option.some Jvm.ClassFile.FieldType.int)) ∈ wG := wG_of (List.mem_of_getElem? (i := 217) (by decide +kernel)) (by decide +kernel)
theorem q_199 : (Jvm.Cond.methodLink "RecordTimes$Line" (63 : Nat) ({ cls := "java/lang/Math", name := "min", desc := "(II)I" } : Jvm.MethodName)) ∈ wG := wG_of (List.mem_of_getElem? (i := 218) (by decide +kernel)) (by decide +kernel)
theorem q_200 : (Jvm.Cond.static ({ cls := "java/lang/Math", name := "min", desc := "(II)I" } : Jvm.MethodName)) ∈ wG := wG_of (List.mem_of_getElem? (i := 219) (by decide +kernel)) (by decide +kernel)
theorem q_201 : (Jvm.Cond.code ({ cls := "java/lang/Math", name := "min", desc := "(II)I" } : Jvm.MethodName) prog_13_method_69_code (2 : Nat) (Option.some Jvm.ClassFile.FieldType.int)) ∈ wG := wG_of (List.mem_of_getElem? (i := 220) (by decide +kernel)) (by decide +kernel)
theorem q_202 : (Jvm.Cond.methodLink "RecordTimes$Line" (49 : Nat) ({ cls := "java/lang/Math", name := "max", desc := "(II)I" } : Jvm.MethodName)) ∈ wG := wG_of (List.mem_of_getElem? (i := 221) (by decide +kernel)) (by decide +kernel)
theorem q_203 : (Jvm.Cond.static ({ cls := "java/lang/Math", name := "max", desc := "(II)I" } : Jvm.MethodName)) ∈ wG := wG_of (List.mem_of_getElem? (i := 222) (by decide +kernel)) (by decide +kernel)
theorem q_204 : (Jvm.Cond.code ({ cls := "java/lang/Math", name := "max", desc := "(II)I" } : Jvm.MethodName) prog_13_method_65_code (2 : Nat) (Option.some Jvm.ClassFile.FieldType.int)) ∈ wG := wG_of (List.mem_of_getElem? (i := 223) (by decide +kernel)) (by decide +kernel)
theorem q_205 : (Jvm.Cond.methodLink "RecordTimesLaw" (117 : Nat) ({ cls := "RecordTimes", name := "export", desc := "(II)I" } : Jvm.MethodName)) ∈ wG := wG_of (List.mem_of_getElem? (i := 224) (by decide +kernel)) (by decide +kernel)
theorem q_206 : (Jvm.Cond.instanceMethod ({ cls := "RecordTimes", name := "export", desc := "(II)I" } : Jvm.MethodName)) ∈ wG := wG_of (List.mem_of_getElem? (i := 225) (by decide +kernel)) (by decide +kernel)
theorem q_207 : (Jvm.Cond.selects "RecordTimes" ({ cls := "RecordTimes", name := "export", desc := "(II)I" } : Jvm.MethodName) ({ cls := "RecordTimes", name := "export", desc := "(II)I" } : Jvm.MethodName)) ∈ wG := wG_of (List.mem_of_getElem? (i := 226) (by decide +kernel)) (by decide +kernel)
theorem q_208 : (Jvm.Cond.code ({ cls := "RecordTimes", name := "export", desc := "(II)I" } : Jvm.MethodName) prog_1_method_11_code (5 : Nat) (Option.some Jvm.ClassFile.FieldType.int)) ∈ wG := wG_of (List.mem_of_getElem? (i := 227) (by decide +kernel)) (by decide +kernel)
theorem q_209 : (Jvm.Cond.methodLink "RecordTimes" (135 : Nat) ({ cls := "RecordTimes$Line", name := "sumWithin", desc := "(IIII)I" } : Jvm.MethodName)) ∈ wG := wG_of (List.mem_of_getElem? (i := 228) (by decide +kernel)) (by decide +kernel)
theorem q_210 : (Jvm.Cond.instanceMethod ({ cls := "RecordTimes$Line", name := "sumWithin", desc := "(IIII)I" } : Jvm.MethodName)) ∈ wG := wG_of (List.mem_of_getElem? (i := 229) (by decide +kernel)) (by decide +kernel)
theorem q_211 : (Jvm.Cond.selects "RecordTimes$Line" ({ cls := "RecordTimes$Line", name := "sumWithin", desc := "(IIII)I" } : Jvm.MethodName) ({ cls := "RecordTimes$Line", name := "sumWithin", desc := "(IIII)I" } : Jvm.MethodName)) ∈ wG := wG_of (List.mem_of_getElem? (i := 230) (by decide +kernel)) (by decide +kernel)
theorem q_212 : (Jvm.Cond.code ({ cls := "RecordTimes$Line", name := "sumWithin", desc := "(IIII)I" } : Jvm.MethodName) prog_3_method_7_code (5 : Nat) (Option.some Jvm.ClassFile.FieldType.int)) ∈ wG := wG_of (List.mem_of_getElem? (i := 231) (by decide +kernel)) (by decide +kernel)
theorem q_213 : (Jvm.Cond.methodLink "RecordTimes$Line" (54 : Nat) ({ cls := "RecordTimes$Slots", name := "sumOn", desc := "(IIII)I" } : Jvm.MethodName)) ∈ wG := wG_of (List.mem_of_getElem? (i := 232) (by decide +kernel)) (by decide +kernel)
theorem q_214 : (Jvm.Cond.instanceMethod ({ cls := "RecordTimes$Slots", name := "sumOn", desc := "(IIII)I" } : Jvm.MethodName)) ∈ wG := wG_of (List.mem_of_getElem? (i := 233) (by decide +kernel)) (by decide +kernel)
theorem q_215 : (Jvm.Cond.selects "RecordTimes$Slots" ({ cls := "RecordTimes$Slots", name := "sumOn", desc := "(IIII)I" } : Jvm.MethodName) ({ cls := "RecordTimes$Slots", name := "sumOn", desc := "(IIII)I" } : Jvm.MethodName)) ∈ wG := wG_of (List.mem_of_getElem? (i := 234) (by decide +kernel)) (by decide +kernel)
theorem q_216 : (Jvm.Cond.code ({ cls := "RecordTimes$Slots", name := "sumOn", desc := "(IIII)I" } : Jvm.MethodName) prog_6_method_5_code (9 : Nat) (Option.some Jvm.ClassFile.FieldType.int)) ∈ wG := wG_of (List.mem_of_getElem? (i := 235) (by decide +kernel)) (by decide +kernel)
theorem q_217 : (Jvm.Cond.methodLink "RecordTimes$Slots" (50 : Nat) ({ cls := "RecordTimes$Slots", name := "shiftOf", desc := "(II)I" } : Jvm.MethodName)) ∈ wG := wG_of (List.mem_of_getElem? (i := 236) (by decide +kernel)) (by decide +kernel)
theorem q_219 : (Jvm.Cond.instanceMethod ({ cls := "RecordTimes$Slots", name := "shiftOf", desc := "(II)I" } : Jvm.MethodName)) ∈ wG := wG_of (List.mem_of_getElem? (i := 238) (by decide +kernel)) (by decide +kernel)
theorem q_220 : (Jvm.Cond.code ({ cls := "RecordTimes$Slots", name := "shiftOf", desc := "(II)I" } : Jvm.MethodName) prog_6_method_7_code (3 : Nat) (Option.some Jvm.ClassFile.FieldType.int)) ∈ wG := wG_of (List.mem_of_getElem? (i := 239) (by decide +kernel)) (by decide +kernel)
theorem q_221 : (Jvm.Cond.constant "RecordTimes$Slots" (54 : Nat) (-2048144789 : Int32)) ∈ wG := wG_of (List.mem_of_getElem? (i := 240) (by decide +kernel)) (by decide +kernel)
theorem q_222 : (Jvm.Cond.methodLink "RecordTimesLaw" (146 : Nat) ({ cls := "RecordTimes", name := "verify", desc := "()I" } : Jvm.MethodName)) ∈ wG := wG_of (List.mem_of_getElem? (i := 241) (by decide +kernel)) (by decide +kernel)
theorem q_223 : (Jvm.Cond.instanceMethod ({ cls := "RecordTimes", name := "verify", desc := "()I" } : Jvm.MethodName)) ∈ wG := wG_of (List.mem_of_getElem? (i := 242) (by decide +kernel)) (by decide +kernel)
theorem q_224 : (Jvm.Cond.selects "RecordTimes" ({ cls := "RecordTimes", name := "verify", desc := "()I" } : Jvm.MethodName) ({ cls := "RecordTimes", name := "verify", desc := "()I" } : Jvm.MethodName)) ∈ wG := wG_of (List.mem_of_getElem? (i := 243) (by decide +kernel)) (by decide +kernel)
theorem q_225 : (Jvm.Cond.code ({ cls := "RecordTimes", name := "verify", desc := "()I" } : Jvm.MethodName) prog_1_method_19_code (2 : Nat) (Option.some Jvm.ClassFile.FieldType.int)) ∈ wG := wG_of (List.mem_of_getElem? (i := 244) (by decide +kernel)) (by decide +kernel)
theorem q_226 : (Jvm.Cond.methodLink "RecordTimes" (132 : Nat) ({ cls := "RecordTimes$Slots", name := "sumNow", desc := "(I)I" } : Jvm.MethodName)) ∈ wG := wG_of (List.mem_of_getElem? (i := 245) (by decide +kernel)) (by decide +kernel)
theorem q_227 : (Jvm.Cond.instanceMethod ({ cls := "RecordTimes$Slots", name := "sumNow", desc := "(I)I" } : Jvm.MethodName)) ∈ wG := wG_of (List.mem_of_getElem? (i := 246) (by decide +kernel)) (by decide +kernel)
theorem q_228 : (Jvm.Cond.selects "RecordTimes$Slots" ({ cls := "RecordTimes$Slots", name := "sumNow", desc := "(I)I" } : Jvm.MethodName) ({ cls := "RecordTimes$Slots", name := "sumNow", desc := "(I)I" } : Jvm.MethodName)) ∈ wG := wG_of (List.mem_of_getElem? (i := 247) (by decide +kernel)) (by decide +kernel)
theorem q_229 : (Jvm.Cond.code ({ cls := "RecordTimes$Slots", name := "sumNow", desc := "(I)I" } : Jvm.MethodName) prog_6_method_4_code (2 : Nat) (Option.some Jvm.ClassFile.FieldType.int)) ∈ wG := wG_of (List.mem_of_getElem? (i := 248) (by decide +kernel)) (by decide +kernel)
theorem q_230 : (Jvm.Cond.methodLink "RecordTimes$Slots" (46 : Nat) ({ cls := "RecordTimes$Slots", name := "sumOn", desc := "(IIII)I" } : Jvm.MethodName)) ∈ wG := wG_of (List.mem_of_getElem? (i := 249) (by decide +kernel)) (by decide +kernel)
theorem q_231 : (Jvm.Cond.methodLink "RecordTimesLaw" (79 : Nat) ({ cls := "RecordTimesLaw", name := "slot", desc := "(LRecordTimes;IIIJII[J)I" } : Jvm.MethodName)) ∈ wG := wG_of (List.mem_of_getElem? (i := 250) (by decide +kernel)) (by decide +kernel)
theorem q_232 : (Jvm.Cond.static ({ cls := "RecordTimesLaw", name := "slot", desc := "(LRecordTimes;IIIJII[J)I" } : Jvm.MethodName)) ∈ wG := wG_of (List.mem_of_getElem? (i := 251) (by decide +kernel)) (by decide +kernel)
theorem q_233 : (Jvm.Cond.codeWith ({ cls := "RecordTimesLaw", name := "slot", desc := "(LRecordTimes;IIIJII[J)I" } : Jvm.MethodName) method_3_code (10 : Nat) (Option.some Jvm.ClassFile.FieldType.int) [((0 : Nat), (18 : Nat), (21 : Nat), (13 : Nat)), ((0 : Nat), (18 : Nat), (25 : Nat), (15 : Nat)), ((0 : Nat), (18 : Nat), (29 : Nat), (17 : Nat))]) ∈ wG := wG_of (List.mem_of_getElem? (i := 252) (by decide +kernel)) (by decide +kernel)
theorem q_234 : (Jvm.Cond.classLink "RecordTimesLaw" (13 : Nat) "java/lang/IllegalArgumentException") ∈ wG := wG_of (List.mem_of_getElem? (i := 253) (by decide +kernel)) (by decide +kernel)
theorem q_235 : (Jvm.Cond.classLink "RecordTimesLaw" (15 : Nat) "java/lang/IndexOutOfBoundsException") ∈ wG := wG_of (List.mem_of_getElem? (i := 254) (by decide +kernel)) (by decide +kernel)
theorem q_236 : (Jvm.Cond.classLink "RecordTimesLaw" (17 : Nat) "java/lang/UnsupportedOperationException") ∈ wG := wG_of (List.mem_of_getElem? (i := 255) (by decide +kernel)) (by decide +kernel)
theorem q_237 : (Jvm.Cond.methodLink "RecordTimesLaw" (7 : Nat) ({ cls := "RecordTimes", name := "slot", desc := "(IIIJII)I" } : Jvm.MethodName)) ∈ wG := wG_of (List.mem_of_getElem? (i := 256) (by decide +kernel)) (by decide +kernel)
theorem q_238 : (Jvm.Cond.instanceMethod ({ cls := "RecordTimes", name := "slot", desc := "(IIIJII)I" } : Jvm.MethodName)) ∈ wG := wG_of (List.mem_of_getElem? (i := 257) (by decide +kernel)) (by decide +kernel)
theorem q_239 : (Jvm.Cond.selects "RecordTimes" ({ cls := "RecordTimes", name := "slot", desc := "(IIIJII)I" } : Jvm.MethodName) ({ cls := "RecordTimes", name := "slot", desc := "(IIIJII)I" } : Jvm.MethodName)) ∈ wG := wG_of (List.mem_of_getElem? (i := 258) (by decide +kernel)) (by decide +kernel)
theorem q_240 : (Jvm.Cond.code ({ cls := "RecordTimes", name := "slot", desc := "(IIIJII)I" } : Jvm.MethodName) prog_1_method_2_code (9 : Nat) (Option.some Jvm.ClassFile.FieldType.int)) ∈ wG := wG_of (List.mem_of_getElem? (i := 259) (by decide +kernel)) (by decide +kernel)
theorem q_241 : (Jvm.Cond.methodLink "RecordTimes" (50 : Nat) ({ cls := "RecordTimes", name := "checkSource", desc := "(I)V" } : Jvm.MethodName)) ∈ wG := wG_of (List.mem_of_getElem? (i := 260) (by decide +kernel)) (by decide +kernel)
theorem q_242 : (Jvm.Cond.static ({ cls := "RecordTimes", name := "checkSource", desc := "(I)V" } : Jvm.MethodName)) ∈ wG := wG_of (List.mem_of_getElem? (i := 261) (by decide +kernel)) (by decide +kernel)
theorem q_243 : (Jvm.Cond.code ({ cls := "RecordTimes", name := "checkSource", desc := "(I)V" } : Jvm.MethodName) prog_1_method_21_code (1 : Nat) (Option.none : Option Jvm.ClassFile.FieldType)) ∈ wG := wG_of (List.mem_of_getElem? (i := 262) (by decide +kernel)) (by decide +kernel)
theorem q_244 : (Jvm.Cond.classLink "RecordTimes" (161 : Nat) "java/lang/IllegalArgumentException") ∈ wG := wG_of (List.mem_of_getElem? (i := 263) (by decide +kernel)) (by decide +kernel)
theorem q_245 : (Jvm.Cond.instantiable "java/lang/IllegalArgumentException" (6 : Nat)) ∈ wG := wG_of (List.mem_of_getElem? (i := 264) (by decide +kernel)) (by decide +kernel)
theorem q_253 : (Jvm.Cond.selects "java/lang/IllegalArgumentException" ({ cls := "java/lang/Throwable", name := "fillInStackTrace", desc := "(I)Ljava/lang/Throwable;" } : Jvm.MethodName) ({ cls := "java/lang/Throwable", name := "fillInStackTrace", desc := "(I)Ljava/lang/Throwable;" } : Jvm.MethodName)) ∈ wG := wG_of (List.mem_of_getElem? (i := 272) (by decide +kernel)) (by decide +kernel)
theorem q_254 : (Jvm.Cond.selects "java/lang/IllegalArgumentException" ({ cls := "java/lang/Throwable", name := "fillInStackTrace", desc := "()Ljava/lang/Throwable;" } : Jvm.MethodName) ({ cls := "java/lang/Throwable", name := "fillInStackTrace", desc := "()Ljava/lang/Throwable;" } : Jvm.MethodName)) ∈ wG := wG_of (List.mem_of_getElem? (i := 273) (by decide +kernel)) (by decide +kernel)
theorem q_265 : (Jvm.Cond.fieldLink "java/lang/Throwable" (198 : Nat) "java/lang/Throwable" "backtrace" "Ljava/lang/Object;") ∈ wG := wG_of (List.mem_of_getElem? (i := 284) (by decide +kernel)) (by decide +kernel)
theorem q_267 : (Jvm.Cond.instanceMethod ({ cls := "java/lang/Throwable", name := "<init>", desc := "()V" } : Jvm.MethodName)) ∈ wG := wG_of (List.mem_of_getElem? (i := 286) (by decide +kernel)) (by decide +kernel)
theorem q_268 : (Jvm.Cond.code ({ cls := "java/lang/Throwable", name := "<init>", desc := "()V" } : Jvm.MethodName) prog_16_method_1_code (1 : Nat) (Option.none : Option Jvm.ClassFile.FieldType)) ∈ wG := wG_of (List.mem_of_getElem? (i := 287) (by decide +kernel)) (by decide +kernel)
theorem q_269 : (Jvm.Cond.methodLink "java/lang/Throwable" (1 : Nat) ({ cls := "java/lang/Object", name := "<init>", desc := "()V" } : Jvm.MethodName)) ∈ wG := wG_of (List.mem_of_getElem? (i := 288) (by decide +kernel)) (by decide +kernel)
theorem q_270 : (Jvm.Cond.fieldLink "java/lang/Throwable" (13 : Nat) "java/lang/Throwable" "UNASSIGNED_STACK" "[Ljava/lang/StackTraceElement;") ∈ wG := wG_of (List.mem_of_getElem? (i := 289) (by decide +kernel)) (by decide +kernel)
theorem q_272 : (Jvm.Cond.fieldLink "java/lang/Throwable" (20 : Nat) "java/lang/Throwable" "SUPPRESSED_SENTINEL" "Ljava/util/List;") ∈ wG := wG_of (List.mem_of_getElem? (i := 291) (by decide +kernel)) (by decide +kernel)
theorem q_274 : (Jvm.Cond.methodLink "java/lang/Throwable" (27 : Nat) ({ cls := "java/lang/Throwable", name := "fillInStackTrace", desc := "()Ljava/lang/Throwable;" } : Jvm.MethodName)) ∈ wG := wG_of (List.mem_of_getElem? (i := 293) (by decide +kernel)) (by decide +kernel)
theorem q_275 : (Jvm.Cond.instanceMethod ({ cls := "java/lang/Throwable", name := "fillInStackTrace", desc := "()Ljava/lang/Throwable;" } : Jvm.MethodName)) ∈ wG := wG_of (List.mem_of_getElem? (i := 294) (by decide +kernel)) (by decide +kernel)
theorem q_277 : (Jvm.Cond.selects "java/lang/IllegalStateException" ({ cls := "java/lang/Throwable", name := "fillInStackTrace", desc := "()Ljava/lang/Throwable;" } : Jvm.MethodName) ({ cls := "java/lang/Throwable", name := "fillInStackTrace", desc := "()Ljava/lang/Throwable;" } : Jvm.MethodName)) ∈ wG := wG_of (List.mem_of_getElem? (i := 296) (by decide +kernel)) (by decide +kernel)
theorem q_278 : (Jvm.Cond.selects "java/lang/IndexOutOfBoundsException" ({ cls := "java/lang/Throwable", name := "fillInStackTrace", desc := "()Ljava/lang/Throwable;" } : Jvm.MethodName) ({ cls := "java/lang/Throwable", name := "fillInStackTrace", desc := "()Ljava/lang/Throwable;" } : Jvm.MethodName)) ∈ wG := wG_of (List.mem_of_getElem? (i := 297) (by decide +kernel)) (by decide +kernel)
theorem q_279 : (Jvm.Cond.selects "java/lang/UnsupportedOperationException" ({ cls := "java/lang/Throwable", name := "fillInStackTrace", desc := "()Ljava/lang/Throwable;" } : Jvm.MethodName) ({ cls := "java/lang/Throwable", name := "fillInStackTrace", desc := "()Ljava/lang/Throwable;" } : Jvm.MethodName)) ∈ wG := wG_of (List.mem_of_getElem? (i := 298) (by decide +kernel)) (by decide +kernel)
theorem q_280 : (Jvm.Cond.codeSync ({ cls := "java/lang/Throwable", name := "fillInStackTrace", desc := "()Ljava/lang/Throwable;" } : Jvm.MethodName) prog_16_method_18_code (1 : Nat) (Option.some (Jvm.ClassFile.FieldType.object "java/lang/Throwable"))) ∈ wG := wG_of (List.mem_of_getElem? (i := 299) (by decide +kernel)) (by decide +kernel)
theorem q_281 : (Jvm.Cond.methodLink "java/lang/Throwable" (202 : Nat) ({ cls := "java/lang/Throwable", name := "fillInStackTrace", desc := "(I)Ljava/lang/Throwable;" } : Jvm.MethodName)) ∈ wG := wG_of (List.mem_of_getElem? (i := 300) (by decide +kernel)) (by decide +kernel)
theorem q_283 : (Jvm.Cond.instanceMethod ({ cls := "java/lang/Throwable", name := "fillInStackTrace", desc := "(I)Ljava/lang/Throwable;" } : Jvm.MethodName)) ∈ wG := wG_of (List.mem_of_getElem? (i := 302) (by decide +kernel)) (by decide +kernel)
theorem q_284 : (Jvm.Cond.instantiable "java/lang/Throwable" (6 : Nat)) ∈ wG := wG_of (List.mem_of_getElem? (i := 303) (by decide +kernel)) (by decide +kernel)
theorem q_285 : (Jvm.Cond.native ({ cls := "java/lang/Throwable", name := "fillInStackTrace", desc := "(I)Ljava/lang/Throwable;" } : Jvm.MethodName)) ∈ wG := wG_of (List.mem_of_getElem? (i := 304) (by decide +kernel)) (by decide +kernel)
theorem q_287 : (Jvm.Cond.methodLink "RecordTimes" (165 : Nat) ({ cls := "java/lang/IllegalArgumentException", name := "<init>", desc := "(Ljava/lang/String;)V" } : Jvm.MethodName)) ∈ wG := wG_of (List.mem_of_getElem? (i := 306) (by decide +kernel)) (by decide +kernel)
theorem q_288 : (Jvm.Cond.instanceMethod ({ cls := "java/lang/IllegalArgumentException", name := "<init>", desc := "(Ljava/lang/String;)V" } : Jvm.MethodName)) ∈ wG := wG_of (List.mem_of_getElem? (i := 307) (by decide +kernel)) (by decide +kernel)
theorem q_289 : (Jvm.Cond.code ({ cls := "java/lang/IllegalArgumentException", name := "<init>", desc := "(Ljava/lang/String;)V" } : Jvm.MethodName) prog_10_method_2_code (2 : Nat) (Option.none : Option Jvm.ClassFile.FieldType)) ∈ wG := wG_of (List.mem_of_getElem? (i := 308) (by decide +kernel)) (by decide +kernel)
theorem q_290 : (Jvm.Cond.methodLink "java/lang/IllegalArgumentException" (7 : Nat) ({ cls := "java/lang/RuntimeException", name := "<init>", desc := "(Ljava/lang/String;)V" } : Jvm.MethodName)) ∈ wG := wG_of (List.mem_of_getElem? (i := 309) (by decide +kernel)) (by decide +kernel)
theorem q_291 : (Jvm.Cond.instanceMethod ({ cls := "java/lang/RuntimeException", name := "<init>", desc := "(Ljava/lang/String;)V" } : Jvm.MethodName)) ∈ wG := wG_of (List.mem_of_getElem? (i := 310) (by decide +kernel)) (by decide +kernel)
theorem q_292 : (Jvm.Cond.code ({ cls := "java/lang/RuntimeException", name := "<init>", desc := "(Ljava/lang/String;)V" } : Jvm.MethodName) prog_14_method_2_code (2 : Nat) (Option.none : Option Jvm.ClassFile.FieldType)) ∈ wG := wG_of (List.mem_of_getElem? (i := 311) (by decide +kernel)) (by decide +kernel)
theorem q_293 : (Jvm.Cond.methodLink "java/lang/RuntimeException" (7 : Nat) ({ cls := "java/lang/Exception", name := "<init>", desc := "(Ljava/lang/String;)V" } : Jvm.MethodName)) ∈ wG := wG_of (List.mem_of_getElem? (i := 312) (by decide +kernel)) (by decide +kernel)
theorem q_294 : (Jvm.Cond.instanceMethod ({ cls := "java/lang/Exception", name := "<init>", desc := "(Ljava/lang/String;)V" } : Jvm.MethodName)) ∈ wG := wG_of (List.mem_of_getElem? (i := 313) (by decide +kernel)) (by decide +kernel)
theorem q_295 : (Jvm.Cond.code ({ cls := "java/lang/Exception", name := "<init>", desc := "(Ljava/lang/String;)V" } : Jvm.MethodName) prog_9_method_2_code (2 : Nat) (Option.none : Option Jvm.ClassFile.FieldType)) ∈ wG := wG_of (List.mem_of_getElem? (i := 314) (by decide +kernel)) (by decide +kernel)
theorem q_296 : (Jvm.Cond.methodLink "java/lang/Exception" (7 : Nat) ({ cls := "java/lang/Throwable", name := "<init>", desc := "(Ljava/lang/String;)V" } : Jvm.MethodName)) ∈ wG := wG_of (List.mem_of_getElem? (i := 315) (by decide +kernel)) (by decide +kernel)
theorem q_297 : (Jvm.Cond.instanceMethod ({ cls := "java/lang/Throwable", name := "<init>", desc := "(Ljava/lang/String;)V" } : Jvm.MethodName)) ∈ wG := wG_of (List.mem_of_getElem? (i := 316) (by decide +kernel)) (by decide +kernel)
theorem q_298 : (Jvm.Cond.code ({ cls := "java/lang/Throwable", name := "<init>", desc := "(Ljava/lang/String;)V" } : Jvm.MethodName) prog_16_method_2_code (2 : Nat) (Option.none : Option Jvm.ClassFile.FieldType)) ∈ wG := wG_of (List.mem_of_getElem? (i := 317) (by decide +kernel)) (by decide +kernel)
theorem q_300 : (Jvm.Cond.fieldLink "java/lang/Throwable" (31 : Nat) "java/lang/Throwable" "detailMessage" "Ljava/lang/String;") ∈ wG := wG_of (List.mem_of_getElem? (i := 319) (by decide +kernel)) (by decide +kernel)
theorem q_301 : (Jvm.Cond.fieldLink "java/lang/Throwable" (7 : Nat) "java/lang/Throwable" "cause" "Ljava/lang/Throwable;") ∈ wG := wG_of (List.mem_of_getElem? (i := 320) (by decide +kernel)) (by decide +kernel)
theorem q_302 : (Jvm.Cond.fieldLink "java/lang/Throwable" (17 : Nat) "java/lang/Throwable" "stackTrace" "[Ljava/lang/StackTraceElement;") ∈ wG := wG_of (List.mem_of_getElem? (i := 321) (by decide +kernel)) (by decide +kernel)
theorem q_303 : (Jvm.Cond.fieldLink "java/lang/Throwable" (24 : Nat) "java/lang/Throwable" "suppressedExceptions" "Ljava/util/List;") ∈ wG := wG_of (List.mem_of_getElem? (i := 322) (by decide +kernel)) (by decide +kernel)
theorem q_312 : (Jvm.Cond.arrayClass Jvm.ClassFile.FieldType.byte) ∈ wG := wG_of (List.mem_of_getElem? (i := 331) (by decide +kernel)) (by decide +kernel)
theorem q_313 : (Jvm.Cond.methodLink "RecordTimes" (54 : Nat) ({ cls := "RecordTimes", name := "checkUnit", desc := "(I)V" } : Jvm.MethodName)) ∈ wG := wG_of (List.mem_of_getElem? (i := 332) (by decide +kernel)) (by decide +kernel)
theorem q_314 : (Jvm.Cond.static ({ cls := "RecordTimes", name := "checkUnit", desc := "(I)V" } : Jvm.MethodName)) ∈ wG := wG_of (List.mem_of_getElem? (i := 333) (by decide +kernel)) (by decide +kernel)
theorem q_315 : (Jvm.Cond.code ({ cls := "RecordTimes", name := "checkUnit", desc := "(I)V" } : Jvm.MethodName) prog_1_method_22_code (1 : Nat) (Option.none : Option Jvm.ClassFile.FieldType)) ∈ wG := wG_of (List.mem_of_getElem? (i := 334) (by decide +kernel)) (by decide +kernel)
theorem q_317 : (Jvm.Cond.methodLink "RecordTimes" (57 : Nat) ({ cls := "RecordTimes", name := "checkIncident", desc := "(I)V" } : Jvm.MethodName)) ∈ wG := wG_of (List.mem_of_getElem? (i := 336) (by decide +kernel)) (by decide +kernel)
theorem q_318 : (Jvm.Cond.static ({ cls := "RecordTimes", name := "checkIncident", desc := "(I)V" } : Jvm.MethodName)) ∈ wG := wG_of (List.mem_of_getElem? (i := 337) (by decide +kernel)) (by decide +kernel)
theorem q_319 : (Jvm.Cond.code ({ cls := "RecordTimes", name := "checkIncident", desc := "(I)V" } : Jvm.MethodName) prog_1_method_23_code (1 : Nat) (Option.none : Option Jvm.ClassFile.FieldType)) ∈ wG := wG_of (List.mem_of_getElem? (i := 338) (by decide +kernel)) (by decide +kernel)
theorem q_321 : (Jvm.Cond.methodLink "RecordTimes" (60 : Nat) ({ cls := "RecordTimes", name := "checkTime", desc := "(I)V" } : Jvm.MethodName)) ∈ wG := wG_of (List.mem_of_getElem? (i := 340) (by decide +kernel)) (by decide +kernel)
theorem q_322 : (Jvm.Cond.static ({ cls := "RecordTimes", name := "checkTime", desc := "(I)V" } : Jvm.MethodName)) ∈ wG := wG_of (List.mem_of_getElem? (i := 341) (by decide +kernel)) (by decide +kernel)
theorem q_323 : (Jvm.Cond.code ({ cls := "RecordTimes", name := "checkTime", desc := "(I)V" } : Jvm.MethodName) prog_1_method_25_code (1 : Nat) (Option.none : Option Jvm.ClassFile.FieldType)) ∈ wG := wG_of (List.mem_of_getElem? (i := 342) (by decide +kernel)) (by decide +kernel)
theorem q_324 : (Jvm.Cond.constant "RecordTimes" (229 : Nat) (9999999 : Int32)) ∈ wG := wG_of (List.mem_of_getElem? (i := 343) (by decide +kernel)) (by decide +kernel)
theorem q_325 : (Jvm.Cond.classLink "RecordTimes" (63 : Nat) "java/lang/IndexOutOfBoundsException") ∈ wG := wG_of (List.mem_of_getElem? (i := 344) (by decide +kernel)) (by decide +kernel)
theorem q_326 : (Jvm.Cond.instantiable "java/lang/IndexOutOfBoundsException" (6 : Nat)) ∈ wG := wG_of (List.mem_of_getElem? (i := 345) (by decide +kernel)) (by decide +kernel)
theorem q_328 : (Jvm.Cond.selects "java/lang/IndexOutOfBoundsException" ({ cls := "java/lang/Throwable", name := "fillInStackTrace", desc := "(I)Ljava/lang/Throwable;" } : Jvm.MethodName) ({ cls := "java/lang/Throwable", name := "fillInStackTrace", desc := "(I)Ljava/lang/Throwable;" } : Jvm.MethodName)) ∈ wG := wG_of (List.mem_of_getElem? (i := 347) (by decide +kernel)) (by decide +kernel)
theorem q_335 : (Jvm.Cond.methodLink "RecordTimes" (67 : Nat) ({ cls := "java/lang/IndexOutOfBoundsException", name := "<init>", desc := "(Ljava/lang/String;)V" } : Jvm.MethodName)) ∈ wG := wG_of (List.mem_of_getElem? (i := 354) (by decide +kernel)) (by decide +kernel)
theorem q_336 : (Jvm.Cond.instanceMethod ({ cls := "java/lang/IndexOutOfBoundsException", name := "<init>", desc := "(Ljava/lang/String;)V" } : Jvm.MethodName)) ∈ wG := wG_of (List.mem_of_getElem? (i := 355) (by decide +kernel)) (by decide +kernel)
theorem q_337 : (Jvm.Cond.code ({ cls := "java/lang/IndexOutOfBoundsException", name := "<init>", desc := "(Ljava/lang/String;)V" } : Jvm.MethodName) prog_12_method_2_code (2 : Nat) (Option.none : Option Jvm.ClassFile.FieldType)) ∈ wG := wG_of (List.mem_of_getElem? (i := 356) (by decide +kernel)) (by decide +kernel)
theorem q_338 : (Jvm.Cond.methodLink "java/lang/IndexOutOfBoundsException" (7 : Nat) ({ cls := "java/lang/RuntimeException", name := "<init>", desc := "(Ljava/lang/String;)V" } : Jvm.MethodName)) ∈ wG := wG_of (List.mem_of_getElem? (i := 357) (by decide +kernel)) (by decide +kernel)
theorem q_342 : (Jvm.Cond.classLink "RecordTimes" (74 : Nat) "java/lang/UnsupportedOperationException") ∈ wG := wG_of (List.mem_of_getElem? (i := 361) (by decide +kernel)) (by decide +kernel)
theorem q_343 : (Jvm.Cond.instantiable "java/lang/UnsupportedOperationException" (6 : Nat)) ∈ wG := wG_of (List.mem_of_getElem? (i := 362) (by decide +kernel)) (by decide +kernel)
theorem q_345 : (Jvm.Cond.selects "java/lang/UnsupportedOperationException" ({ cls := "java/lang/Throwable", name := "fillInStackTrace", desc := "(I)Ljava/lang/Throwable;" } : Jvm.MethodName) ({ cls := "java/lang/Throwable", name := "fillInStackTrace", desc := "(I)Ljava/lang/Throwable;" } : Jvm.MethodName)) ∈ wG := wG_of (List.mem_of_getElem? (i := 364) (by decide +kernel)) (by decide +kernel)
theorem q_352 : (Jvm.Cond.methodLink "RecordTimes" (78 : Nat) ({ cls := "java/lang/UnsupportedOperationException", name := "<init>", desc := "(Ljava/lang/String;)V" } : Jvm.MethodName)) ∈ wG := wG_of (List.mem_of_getElem? (i := 371) (by decide +kernel)) (by decide +kernel)
theorem q_353 : (Jvm.Cond.instanceMethod ({ cls := "java/lang/UnsupportedOperationException", name := "<init>", desc := "(Ljava/lang/String;)V" } : Jvm.MethodName)) ∈ wG := wG_of (List.mem_of_getElem? (i := 372) (by decide +kernel)) (by decide +kernel)
theorem q_354 : (Jvm.Cond.code ({ cls := "java/lang/UnsupportedOperationException", name := "<init>", desc := "(Ljava/lang/String;)V" } : Jvm.MethodName) prog_17_method_2_code (2 : Nat) (Option.none : Option Jvm.ClassFile.FieldType)) ∈ wG := wG_of (List.mem_of_getElem? (i := 373) (by decide +kernel)) (by decide +kernel)
theorem q_355 : (Jvm.Cond.methodLink "java/lang/UnsupportedOperationException" (7 : Nat) ({ cls := "java/lang/RuntimeException", name := "<init>", desc := "(Ljava/lang/String;)V" } : Jvm.MethodName)) ∈ wG := wG_of (List.mem_of_getElem? (i := 374) (by decide +kernel)) (by decide +kernel)
theorem q_358 : (Jvm.Cond.methodLink "RecordTimes" (79 : Nat) ({ cls := "RecordTimes$Slots", name := "add", desc := "(IIIJII)I" } : Jvm.MethodName)) ∈ wG := wG_of (List.mem_of_getElem? (i := 377) (by decide +kernel)) (by decide +kernel)
theorem q_359 : (Jvm.Cond.instanceMethod ({ cls := "RecordTimes$Slots", name := "add", desc := "(IIIJII)I" } : Jvm.MethodName)) ∈ wG := wG_of (List.mem_of_getElem? (i := 378) (by decide +kernel)) (by decide +kernel)
theorem q_360 : (Jvm.Cond.selects "RecordTimes$Slots" ({ cls := "RecordTimes$Slots", name := "add", desc := "(IIIJII)I" } : Jvm.MethodName) ({ cls := "RecordTimes$Slots", name := "add", desc := "(IIIJII)I" } : Jvm.MethodName)) ∈ wG := wG_of (List.mem_of_getElem? (i := 379) (by decide +kernel)) (by decide +kernel)
theorem q_361 : (Jvm.Cond.code ({ cls := "RecordTimes$Slots", name := "add", desc := "(IIIJII)I" } : Jvm.MethodName) prog_6_method_2_code (9 : Nat) (Option.some Jvm.ClassFile.FieldType.int)) ∈ wG := wG_of (List.mem_of_getElem? (i := 380) (by decide +kernel)) (by decide +kernel)
theorem q_362 : (Jvm.Cond.methodLink "RecordTimes$Slots" (42 : Nat) ({ cls := "RecordTimes$Slots", name := "sumNow", desc := "(I)I" } : Jvm.MethodName)) ∈ wG := wG_of (List.mem_of_getElem? (i := 381) (by decide +kernel)) (by decide +kernel)
theorem q_363 : (Jvm.Cond.methodLink "RecordTimes" (83 : Nat) ({ cls := "RecordTimes$Line", name := "insert", desc := "(I)V" } : Jvm.MethodName)) ∈ wG := wG_of (List.mem_of_getElem? (i := 382) (by decide +kernel)) (by decide +kernel)
theorem q_364 : (Jvm.Cond.instanceMethod ({ cls := "RecordTimes$Line", name := "insert", desc := "(I)V" } : Jvm.MethodName)) ∈ wG := wG_of (List.mem_of_getElem? (i := 383) (by decide +kernel)) (by decide +kernel)
theorem q_365 : (Jvm.Cond.selects "RecordTimes$Line" ({ cls := "RecordTimes$Line", name := "insert", desc := "(I)V" } : Jvm.MethodName) ({ cls := "RecordTimes$Line", name := "insert", desc := "(I)V" } : Jvm.MethodName)) ∈ wG := wG_of (List.mem_of_getElem? (i := 384) (by decide +kernel)) (by decide +kernel)
theorem q_366 : (Jvm.Cond.code ({ cls := "RecordTimes$Line", name := "insert", desc := "(I)V" } : Jvm.MethodName) prog_3_method_2_code (2 : Nat) (Option.none : Option Jvm.ClassFile.FieldType)) ∈ wG := wG_of (List.mem_of_getElem? (i := 385) (by decide +kernel)) (by decide +kernel)
theorem q_367 : (Jvm.Cond.methodLink "RecordTimes$Line" (27 : Nat) ({ cls := "RecordTimes$Line", name := "settle", desc := "(I)V" } : Jvm.MethodName)) ∈ wG := wG_of (List.mem_of_getElem? (i := 386) (by decide +kernel)) (by decide +kernel)
theorem q_369 : (Jvm.Cond.instanceMethod ({ cls := "RecordTimes$Line", name := "settle", desc := "(I)V" } : Jvm.MethodName)) ∈ wG := wG_of (List.mem_of_getElem? (i := 388) (by decide +kernel)) (by decide +kernel)
theorem q_370 : (Jvm.Cond.code ({ cls := "RecordTimes$Line", name := "settle", desc := "(I)V" } : Jvm.MethodName) prog_3_method_9_code (4 : Nat) (Option.none : Option Jvm.ClassFile.FieldType)) ∈ wG := wG_of (List.mem_of_getElem? (i := 389) (by decide +kernel)) (by decide +kernel)
theorem q_371 : (Jvm.Cond.methodLink "RecordTimes$Line" (66 : Nat) ({ cls := "RecordTimes$Line", name := "isBefore", desc := "(II)Z" } : Jvm.MethodName)) ∈ wG := wG_of (List.mem_of_getElem? (i := 390) (by decide +kernel)) (by decide +kernel)
theorem q_373 : (Jvm.Cond.instanceMethod ({ cls := "RecordTimes$Line", name := "isBefore", desc := "(II)Z" } : Jvm.MethodName)) ∈ wG := wG_of (List.mem_of_getElem? (i := 392) (by decide +kernel)) (by decide +kernel)
theorem q_374 : (Jvm.Cond.code ({ cls := "RecordTimes$Line", name := "isBefore", desc := "(II)Z" } : Jvm.MethodName) prog_3_method_10_code (5 : Nat) (Option.some Jvm.ClassFile.FieldType.boolean)) ∈ wG := wG_of (List.mem_of_getElem? (i := 393) (by decide +kernel)) (by decide +kernel)
theorem q_375 : (Jvm.Cond.methodLink "RecordTimesLaw" (89 : Nat) ({ cls := "RecordTimesLaw", name := "mark", desc := "(LRecordTimes;III[J)I" } : Jvm.MethodName)) ∈ wG := wG_of (List.mem_of_getElem? (i := 394) (by decide +kernel)) (by decide +kernel)
theorem q_376 : (Jvm.Cond.static ({ cls := "RecordTimesLaw", name := "mark", desc := "(LRecordTimes;III[J)I" } : Jvm.MethodName)) ∈ wG := wG_of (List.mem_of_getElem? (i := 395) (by decide +kernel)) (by decide +kernel)
theorem q_377 : (Jvm.Cond.codeWith ({ cls := "RecordTimesLaw", name := "mark", desc := "(LRecordTimes;III[J)I" } : Jvm.MethodName) method_4_code (6 : Nat) (Option.some Jvm.ClassFile.FieldType.int) [((0 : Nat), (12 : Nat), (15 : Nat), (13 : Nat)), ((0 : Nat), (12 : Nat), (19 : Nat), (15 : Nat)), ((0 : Nat), (12 : Nat), (23 : Nat), (17 : Nat))]) ∈ wG := wG_of (List.mem_of_getElem? (i := 396) (by decide +kernel)) (by decide +kernel)
theorem q_378 : (Jvm.Cond.methodLink "RecordTimesLaw" (19 : Nat) ({ cls := "RecordTimes", name := "mark", desc := "(III)I" } : Jvm.MethodName)) ∈ wG := wG_of (List.mem_of_getElem? (i := 397) (by decide +kernel)) (by decide +kernel)
theorem q_379 : (Jvm.Cond.instanceMethod ({ cls := "RecordTimes", name := "mark", desc := "(III)I" } : Jvm.MethodName)) ∈ wG := wG_of (List.mem_of_getElem? (i := 398) (by decide +kernel)) (by decide +kernel)
theorem q_380 : (Jvm.Cond.selects "RecordTimes" ({ cls := "RecordTimes", name := "mark", desc := "(III)I" } : Jvm.MethodName) ({ cls := "RecordTimes", name := "mark", desc := "(III)I" } : Jvm.MethodName)) ∈ wG := wG_of (List.mem_of_getElem? (i := 399) (by decide +kernel)) (by decide +kernel)
theorem q_381 : (Jvm.Cond.code ({ cls := "RecordTimes", name := "mark", desc := "(III)I" } : Jvm.MethodName) prog_1_method_3_code (5 : Nat) (Option.some Jvm.ClassFile.FieldType.int)) ∈ wG := wG_of (List.mem_of_getElem? (i := 400) (by decide +kernel)) (by decide +kernel)
theorem q_383 : (Jvm.Cond.methodLink "RecordTimes" (89 : Nat) ({ cls := "RecordTimes$Marks", name := "add", desc := "(II)I" } : Jvm.MethodName)) ∈ wG := wG_of (List.mem_of_getElem? (i := 402) (by decide +kernel)) (by decide +kernel)
theorem q_384 : (Jvm.Cond.instanceMethod ({ cls := "RecordTimes$Marks", name := "add", desc := "(II)I" } : Jvm.MethodName)) ∈ wG := wG_of (List.mem_of_getElem? (i := 403) (by decide +kernel)) (by decide +kernel)
theorem q_385 : (Jvm.Cond.selects "RecordTimes$Marks" ({ cls := "RecordTimes$Marks", name := "add", desc := "(II)I" } : Jvm.MethodName) ({ cls := "RecordTimes$Marks", name := "add", desc := "(II)I" } : Jvm.MethodName)) ∈ wG := wG_of (List.mem_of_getElem? (i := 404) (by decide +kernel)) (by decide +kernel)
theorem q_386 : (Jvm.Cond.code ({ cls := "RecordTimes$Marks", name := "add", desc := "(II)I" } : Jvm.MethodName) prog_5_method_2_code (4 : Nat) (Option.some Jvm.ClassFile.FieldType.int)) ∈ wG := wG_of (List.mem_of_getElem? (i := 405) (by decide +kernel)) (by decide +kernel)
theorem q_387 : (Jvm.Cond.methodLink "RecordTimes" (96 : Nat) ({ cls := "RecordTimes$Line", name := "sortAgain", desc := "()V" } : Jvm.MethodName)) ∈ wG := wG_of (List.mem_of_getElem? (i := 406) (by decide +kernel)) (by decide +kernel)
theorem q_388 : (Jvm.Cond.instanceMethod ({ cls := "RecordTimes$Line", name := "sortAgain", desc := "()V" } : Jvm.MethodName)) ∈ wG := wG_of (List.mem_of_getElem? (i := 407) (by decide +kernel)) (by decide +kernel)
theorem q_389 : (Jvm.Cond.selects "RecordTimes$Line" ({ cls := "RecordTimes$Line", name := "sortAgain", desc := "()V" } : Jvm.MethodName) ({ cls := "RecordTimes$Line", name := "sortAgain", desc := "()V" } : Jvm.MethodName)) ∈ wG := wG_of (List.mem_of_getElem? (i := 408) (by decide +kernel)) (by decide +kernel)
theorem q_390 : (Jvm.Cond.code ({ cls := "RecordTimes$Line", name := "sortAgain", desc := "()V" } : Jvm.MethodName) prog_3_method_4_code (2 : Nat) (Option.none : Option Jvm.ClassFile.FieldType)) ∈ wG := wG_of (List.mem_of_getElem? (i := 409) (by decide +kernel)) (by decide +kernel)
theorem q_391 : (Jvm.Cond.methodLink "RecordTimesLaw" (93 : Nat) ({ cls := "RecordTimesLaw", name := "offset", desc := "(LRecordTimes;I[J)I" } : Jvm.MethodName)) ∈ wG := wG_of (List.mem_of_getElem? (i := 410) (by decide +kernel)) (by decide +kernel)
theorem q_392 : (Jvm.Cond.static ({ cls := "RecordTimesLaw", name := "offset", desc := "(LRecordTimes;I[J)I" } : Jvm.MethodName)) ∈ wG := wG_of (List.mem_of_getElem? (i := 411) (by decide +kernel)) (by decide +kernel)
theorem q_393 : (Jvm.Cond.codeWith ({ cls := "RecordTimesLaw", name := "offset", desc := "(LRecordTimes;I[J)I" } : Jvm.MethodName) method_5_code (4 : Nat) (Option.some Jvm.ClassFile.FieldType.int) [((0 : Nat), (9 : Nat), (12 : Nat), (13 : Nat))]) ∈ wG := wG_of (List.mem_of_getElem? (i := 412) (by decide +kernel)) (by decide +kernel)
theorem q_394 : (Jvm.Cond.methodLink "RecordTimesLaw" (23 : Nat) ({ cls := "RecordTimes", name := "offset", desc := "(I)I" } : Jvm.MethodName)) ∈ wG := wG_of (List.mem_of_getElem? (i := 413) (by decide +kernel)) (by decide +kernel)
theorem q_395 : (Jvm.Cond.instanceMethod ({ cls := "RecordTimes", name := "offset", desc := "(I)I" } : Jvm.MethodName)) ∈ wG := wG_of (List.mem_of_getElem? (i := 414) (by decide +kernel)) (by decide +kernel)
theorem q_396 : (Jvm.Cond.selects "RecordTimes" ({ cls := "RecordTimes", name := "offset", desc := "(I)I" } : Jvm.MethodName) ({ cls := "RecordTimes", name := "offset", desc := "(I)I" } : Jvm.MethodName)) ∈ wG := wG_of (List.mem_of_getElem? (i := 415) (by decide +kernel)) (by decide +kernel)
theorem q_397 : (Jvm.Cond.code ({ cls := "RecordTimes", name := "offset", desc := "(I)I" } : Jvm.MethodName) prog_1_method_4_code (2 : Nat) (Option.some Jvm.ClassFile.FieldType.int)) ∈ wG := wG_of (List.mem_of_getElem? (i := 416) (by decide +kernel)) (by decide +kernel)
theorem q_398 : (Jvm.Cond.methodLink "RecordTimes" (99 : Nat) ({ cls := "RecordTimes$Marks", name := "offsetOf", desc := "(I)I" } : Jvm.MethodName)) ∈ wG := wG_of (List.mem_of_getElem? (i := 417) (by decide +kernel)) (by decide +kernel)
theorem q_399 : (Jvm.Cond.methodLink "RecordTimesLaw" (97 : Nat) ({ cls := "RecordTimesLaw", name := "contradiction", desc := "(LRecordTimes;I[J)I" } : Jvm.MethodName)) ∈ wG := wG_of (List.mem_of_getElem? (i := 418) (by decide +kernel)) (by decide +kernel)
theorem q_400 : (Jvm.Cond.static ({ cls := "RecordTimesLaw", name := "contradiction", desc := "(LRecordTimes;I[J)I" } : Jvm.MethodName)) ∈ wG := wG_of (List.mem_of_getElem? (i := 419) (by decide +kernel)) (by decide +kernel)
theorem q_401 : (Jvm.Cond.codeWith ({ cls := "RecordTimesLaw", name := "contradiction", desc := "(LRecordTimes;I[J)I" } : Jvm.MethodName) method_6_code (4 : Nat) (Option.some Jvm.ClassFile.FieldType.int) [((0 : Nat), (9 : Nat), (12 : Nat), (15 : Nat))]) ∈ wG := wG_of (List.mem_of_getElem? (i := 420) (by decide +kernel)) (by decide +kernel)
theorem q_402 : (Jvm.Cond.methodLink "RecordTimesLaw" (27 : Nat) ({ cls := "RecordTimes", name := "contradiction", desc := "(I)I" } : Jvm.MethodName)) ∈ wG := wG_of (List.mem_of_getElem? (i := 421) (by decide +kernel)) (by decide +kernel)
theorem q_403 : (Jvm.Cond.instanceMethod ({ cls := "RecordTimes", name := "contradiction", desc := "(I)I" } : Jvm.MethodName)) ∈ wG := wG_of (List.mem_of_getElem? (i := 422) (by decide +kernel)) (by decide +kernel)
theorem q_404 : (Jvm.Cond.selects "RecordTimes" ({ cls := "RecordTimes", name := "contradiction", desc := "(I)I" } : Jvm.MethodName) ({ cls := "RecordTimes", name := "contradiction", desc := "(I)I" } : Jvm.MethodName)) ∈ wG := wG_of (List.mem_of_getElem? (i := 423) (by decide +kernel)) (by decide +kernel)
theorem q_405 : (Jvm.Cond.code ({ cls := "RecordTimes", name := "contradiction", desc := "(I)I" } : Jvm.MethodName) prog_1_method_5_code (2 : Nat) (Option.some Jvm.ClassFile.FieldType.int)) ∈ wG := wG_of (List.mem_of_getElem? (i := 424) (by decide +kernel)) (by decide +kernel)
theorem q_406 : (Jvm.Cond.methodLink "RecordTimes" (103 : Nat) ({ cls := "RecordTimes", name := "checkPlace", desc := "(I)V" } : Jvm.MethodName)) ∈ wG := wG_of (List.mem_of_getElem? (i := 425) (by decide +kernel)) (by decide +kernel)
theorem q_407 : (Jvm.Cond.static ({ cls := "RecordTimes", name := "checkPlace", desc := "(I)V" } : Jvm.MethodName)) ∈ wG := wG_of (List.mem_of_getElem? (i := 426) (by decide +kernel)) (by decide +kernel)
theorem q_408 : (Jvm.Cond.code ({ cls := "RecordTimes", name := "checkPlace", desc := "(I)V" } : Jvm.MethodName) prog_1_method_26_code (1 : Nat) (Option.none : Option Jvm.ClassFile.FieldType)) ∈ wG := wG_of (List.mem_of_getElem? (i := 427) (by decide +kernel)) (by decide +kernel)
theorem q_410 : (Jvm.Cond.methodLink "RecordTimes" (106 : Nat) ({ cls := "RecordTimes$Marks", name := "contradictionAt", desc := "(I)I" } : Jvm.MethodName)) ∈ wG := wG_of (List.mem_of_getElem? (i := 429) (by decide +kernel)) (by decide +kernel)
theorem q_411 : (Jvm.Cond.instanceMethod ({ cls := "RecordTimes$Marks", name := "contradictionAt", desc := "(I)I" } : Jvm.MethodName)) ∈ wG := wG_of (List.mem_of_getElem? (i := 430) (by decide +kernel)) (by decide +kernel)
theorem q_412 : (Jvm.Cond.selects "RecordTimes$Marks" ({ cls := "RecordTimes$Marks", name := "contradictionAt", desc := "(I)I" } : Jvm.MethodName) ({ cls := "RecordTimes$Marks", name := "contradictionAt", desc := "(I)I" } : Jvm.MethodName)) ∈ wG := wG_of (List.mem_of_getElem? (i := 431) (by decide +kernel)) (by decide +kernel)
theorem q_413 : (Jvm.Cond.code ({ cls := "RecordTimes$Marks", name := "contradictionAt", desc := "(I)I" } : Jvm.MethodName) prog_5_method_4_code (4 : Nat) (Option.some Jvm.ClassFile.FieldType.int)) ∈ wG := wG_of (List.mem_of_getElem? (i := 432) (by decide +kernel)) (by decide +kernel)
theorem q_414 : (Jvm.Cond.methodLink "RecordTimes$Marks" (25 : Nat) ({ cls := "RecordTimes$Marks", name := "offsetOf", desc := "(I)I" } : Jvm.MethodName)) ∈ wG := wG_of (List.mem_of_getElem? (i := 433) (by decide +kernel)) (by decide +kernel)
theorem q_415 : (Jvm.Cond.methodLink "RecordTimesLaw" (100 : Nat) ({ cls := "RecordTimesLaw", name := "find", desc := "(LRecordTimes;IIIII[J)I" } : Jvm.MethodName)) ∈ wG := wG_of (List.mem_of_getElem? (i := 434) (by decide +kernel)) (by decide +kernel)
theorem q_416 : (Jvm.Cond.static ({ cls := "RecordTimesLaw", name := "find", desc := "(LRecordTimes;IIIII[J)I" } : Jvm.MethodName)) ∈ wG := wG_of (List.mem_of_getElem? (i := 435) (by decide +kernel)) (by decide +kernel)
theorem q_417 : (Jvm.Cond.codeWith ({ cls := "RecordTimesLaw", name := "find", desc := "(LRecordTimes;IIIII[J)I" } : Jvm.MethodName) method_7_code (8 : Nat) (Option.some Jvm.ClassFile.FieldType.int) [((0 : Nat), (16 : Nat), (19 : Nat), (13 : Nat)), ((0 : Nat), (16 : Nat), (23 : Nat), (15 : Nat))]) ∈ wG := wG_of (List.mem_of_getElem? (i := 436) (by decide +kernel)) (by decide +kernel)
theorem q_418 : (Jvm.Cond.methodLink "RecordTimesLaw" (30 : Nat) ({ cls := "RecordTimes", name := "find", desc := "(IIIII)I" } : Jvm.MethodName)) ∈ wG := wG_of (List.mem_of_getElem? (i := 437) (by decide +kernel)) (by decide +kernel)
theorem q_419 : (Jvm.Cond.instanceMethod ({ cls := "RecordTimes", name := "find", desc := "(IIIII)I" } : Jvm.MethodName)) ∈ wG := wG_of (List.mem_of_getElem? (i := 438) (by decide +kernel)) (by decide +kernel)
theorem q_420 : (Jvm.Cond.selects "RecordTimes" ({ cls := "RecordTimes", name := "find", desc := "(IIIII)I" } : Jvm.MethodName) ({ cls := "RecordTimes", name := "find", desc := "(IIIII)I" } : Jvm.MethodName)) ∈ wG := wG_of (List.mem_of_getElem? (i := 439) (by decide +kernel)) (by decide +kernel)
theorem q_421 : (Jvm.Cond.code ({ cls := "RecordTimes", name := "find", desc := "(IIIII)I" } : Jvm.MethodName) prog_1_method_6_code (9 : Nat) (Option.some Jvm.ClassFile.FieldType.int)) ∈ wG := wG_of (List.mem_of_getElem? (i := 440) (by decide +kernel)) (by decide +kernel)
theorem q_422 : (Jvm.Cond.methodLink "RecordTimes" (115 : Nat) ({ cls := "RecordTimes$Slots", name := "isOf", desc := "(III)Z" } : Jvm.MethodName)) ∈ wG := wG_of (List.mem_of_getElem? (i := 441) (by decide +kernel)) (by decide +kernel)
theorem q_423 : (Jvm.Cond.instanceMethod ({ cls := "RecordTimes$Slots", name := "isOf", desc := "(III)Z" } : Jvm.MethodName)) ∈ wG := wG_of (List.mem_of_getElem? (i := 442) (by decide +kernel)) (by decide +kernel)
theorem q_424 : (Jvm.Cond.selects "RecordTimes$Slots" ({ cls := "RecordTimes$Slots", name := "isOf", desc := "(III)Z" } : Jvm.MethodName) ({ cls := "RecordTimes$Slots", name := "isOf", desc := "(III)Z" } : Jvm.MethodName)) ∈ wG := wG_of (List.mem_of_getElem? (i := 443) (by decide +kernel)) (by decide +kernel)
theorem q_425 : (Jvm.Cond.code ({ cls := "RecordTimes$Slots", name := "isOf", desc := "(III)Z" } : Jvm.MethodName) prog_6_method_3_code (4 : Nat) (Option.some Jvm.ClassFile.FieldType.boolean)) ∈ wG := wG_of (List.mem_of_getElem? (i := 444) (by decide +kernel)) (by decide +kernel)
theorem q_426 : (Jvm.Cond.methodLink "RecordTimesLaw" (104 : Nat) ({ cls := "RecordTimesLaw", name := "time", desc := "(LRecordTimes;I[J)I" } : Jvm.MethodName)) ∈ wG := wG_of (List.mem_of_getElem? (i := 445) (by decide +kernel)) (by decide +kernel)
theorem q_427 : (Jvm.Cond.static ({ cls := "RecordTimesLaw", name := "time", desc := "(LRecordTimes;I[J)I" } : Jvm.MethodName)) ∈ wG := wG_of (List.mem_of_getElem? (i := 446) (by decide +kernel)) (by decide +kernel)
theorem q_428 : (Jvm.Cond.codeWith ({ cls := "RecordTimesLaw", name := "time", desc := "(LRecordTimes;I[J)I" } : Jvm.MethodName) method_8_code (4 : Nat) (Option.some Jvm.ClassFile.FieldType.int) [((0 : Nat), (9 : Nat), (12 : Nat), (13 : Nat)), ((0 : Nat), (9 : Nat), (15 : Nat), (37 : Nat))]) ∈ wG := wG_of (List.mem_of_getElem? (i := 447) (by decide +kernel)) (by decide +kernel)
theorem q_429 : (Jvm.Cond.classLink "RecordTimesLaw" (37 : Nat) "java/lang/IllegalStateException") ∈ wG := wG_of (List.mem_of_getElem? (i := 448) (by decide +kernel)) (by decide +kernel)
theorem q_430 : (Jvm.Cond.methodLink "RecordTimesLaw" (34 : Nat) ({ cls := "RecordTimes", name := "time", desc := "(I)I" } : Jvm.MethodName)) ∈ wG := wG_of (List.mem_of_getElem? (i := 449) (by decide +kernel)) (by decide +kernel)
theorem q_431 : (Jvm.Cond.instanceMethod ({ cls := "RecordTimes", name := "time", desc := "(I)I" } : Jvm.MethodName)) ∈ wG := wG_of (List.mem_of_getElem? (i := 450) (by decide +kernel)) (by decide +kernel)
theorem q_432 : (Jvm.Cond.selects "RecordTimes" ({ cls := "RecordTimes", name := "time", desc := "(I)I" } : Jvm.MethodName) ({ cls := "RecordTimes", name := "time", desc := "(I)I" } : Jvm.MethodName)) ∈ wG := wG_of (List.mem_of_getElem? (i := 451) (by decide +kernel)) (by decide +kernel)
theorem q_433 : (Jvm.Cond.code ({ cls := "RecordTimes", name := "time", desc := "(I)I" } : Jvm.MethodName) prog_1_method_7_code (2 : Nat) (Option.some Jvm.ClassFile.FieldType.int)) ∈ wG := wG_of (List.mem_of_getElem? (i := 452) (by decide +kernel)) (by decide +kernel)
theorem q_434 : (Jvm.Cond.methodLink "RecordTimes" (123 : Nat) ({ cls := "RecordTimes", name := "checkSlot", desc := "(I)V" } : Jvm.MethodName)) ∈ wG := wG_of (List.mem_of_getElem? (i := 453) (by decide +kernel)) (by decide +kernel)
theorem q_436 : (Jvm.Cond.instanceMethod ({ cls := "RecordTimes", name := "checkSlot", desc := "(I)V" } : Jvm.MethodName)) ∈ wG := wG_of (List.mem_of_getElem? (i := 455) (by decide +kernel)) (by decide +kernel)
theorem q_437 : (Jvm.Cond.code ({ cls := "RecordTimes", name := "checkSlot", desc := "(I)V" } : Jvm.MethodName) prog_1_method_27_code (2 : Nat) (Option.none : Option Jvm.ClassFile.FieldType)) ∈ wG := wG_of (List.mem_of_getElem? (i := 456) (by decide +kernel)) (by decide +kernel)
theorem q_439 : (Jvm.Cond.methodLink "RecordTimes" (126 : Nat) ({ cls := "RecordTimes", name := "checkThere", desc := "(I)V" } : Jvm.MethodName)) ∈ wG := wG_of (List.mem_of_getElem? (i := 458) (by decide +kernel)) (by decide +kernel)
theorem q_441 : (Jvm.Cond.instanceMethod ({ cls := "RecordTimes", name := "checkThere", desc := "(I)V" } : Jvm.MethodName)) ∈ wG := wG_of (List.mem_of_getElem? (i := 460) (by decide +kernel)) (by decide +kernel)
theorem q_442 : (Jvm.Cond.code ({ cls := "RecordTimes", name := "checkThere", desc := "(I)V" } : Jvm.MethodName) prog_1_method_28_code (2 : Nat) (Option.none : Option Jvm.ClassFile.FieldType)) ∈ wG := wG_of (List.mem_of_getElem? (i := 461) (by decide +kernel)) (by decide +kernel)
theorem q_443 : (Jvm.Cond.classLink "RecordTimes" (139 : Nat) "java/lang/IllegalStateException") ∈ wG := wG_of (List.mem_of_getElem? (i := 462) (by decide +kernel)) (by decide +kernel)
theorem q_444 : (Jvm.Cond.instantiable "java/lang/IllegalStateException" (6 : Nat)) ∈ wG := wG_of (List.mem_of_getElem? (i := 463) (by decide +kernel)) (by decide +kernel)
theorem q_446 : (Jvm.Cond.selects "java/lang/IllegalStateException" ({ cls := "java/lang/Throwable", name := "fillInStackTrace", desc := "(I)Ljava/lang/Throwable;" } : Jvm.MethodName) ({ cls := "java/lang/Throwable", name := "fillInStackTrace", desc := "(I)Ljava/lang/Throwable;" } : Jvm.MethodName)) ∈ wG := wG_of (List.mem_of_getElem? (i := 465) (by decide +kernel)) (by decide +kernel)
theorem q_453 : (Jvm.Cond.methodLink "RecordTimes" (143 : Nat) ({ cls := "java/lang/IllegalStateException", name := "<init>", desc := "(Ljava/lang/String;)V" } : Jvm.MethodName)) ∈ wG := wG_of (List.mem_of_getElem? (i := 472) (by decide +kernel)) (by decide +kernel)
theorem q_454 : (Jvm.Cond.instanceMethod ({ cls := "java/lang/IllegalStateException", name := "<init>", desc := "(Ljava/lang/String;)V" } : Jvm.MethodName)) ∈ wG := wG_of (List.mem_of_getElem? (i := 473) (by decide +kernel)) (by decide +kernel)
theorem q_455 : (Jvm.Cond.code ({ cls := "java/lang/IllegalStateException", name := "<init>", desc := "(Ljava/lang/String;)V" } : Jvm.MethodName) prog_11_method_2_code (2 : Nat) (Option.none : Option Jvm.ClassFile.FieldType)) ∈ wG := wG_of (List.mem_of_getElem? (i := 474) (by decide +kernel)) (by decide +kernel)
theorem q_456 : (Jvm.Cond.methodLink "java/lang/IllegalStateException" (7 : Nat) ({ cls := "java/lang/RuntimeException", name := "<init>", desc := "(Ljava/lang/String;)V" } : Jvm.MethodName)) ∈ wG := wG_of (List.mem_of_getElem? (i := 475) (by decide +kernel)) (by decide +kernel)
theorem q_459 : (Jvm.Cond.methodLink "RecordTimes" (129 : Nat) ({ cls := "RecordTimes$Line", name := "beginOf", desc := "(I)I" } : Jvm.MethodName)) ∈ wG := wG_of (List.mem_of_getElem? (i := 478) (by decide +kernel)) (by decide +kernel)
theorem q_460 : (Jvm.Cond.methodLink "RecordTimesLaw" (107 : Nat) ({ cls := "RecordTimesLaw", name := "sum", desc := "(LRecordTimes;I[J)I" } : Jvm.MethodName)) ∈ wG := wG_of (List.mem_of_getElem? (i := 479) (by decide +kernel)) (by decide +kernel)
theorem q_461 : (Jvm.Cond.static ({ cls := "RecordTimesLaw", name := "sum", desc := "(LRecordTimes;I[J)I" } : Jvm.MethodName)) ∈ wG := wG_of (List.mem_of_getElem? (i := 480) (by decide +kernel)) (by decide +kernel)
theorem q_462 : (Jvm.Cond.codeWith ({ cls := "RecordTimesLaw", name := "sum", desc := "(LRecordTimes;I[J)I" } : Jvm.MethodName) method_9_code (4 : Nat) (Option.some Jvm.ClassFile.FieldType.int) [((0 : Nat), (9 : Nat), (12 : Nat), (13 : Nat)), ((0 : Nat), (9 : Nat), (15 : Nat), (37 : Nat))]) ∈ wG := wG_of (List.mem_of_getElem? (i := 481) (by decide +kernel)) (by decide +kernel)
theorem q_463 : (Jvm.Cond.methodLink "RecordTimesLaw" (39 : Nat) ({ cls := "RecordTimes", name := "sum", desc := "(I)I" } : Jvm.MethodName)) ∈ wG := wG_of (List.mem_of_getElem? (i := 482) (by decide +kernel)) (by decide +kernel)
theorem q_464 : (Jvm.Cond.instanceMethod ({ cls := "RecordTimes", name := "sum", desc := "(I)I" } : Jvm.MethodName)) ∈ wG := wG_of (List.mem_of_getElem? (i := 483) (by decide +kernel)) (by decide +kernel)
theorem q_465 : (Jvm.Cond.selects "RecordTimes" ({ cls := "RecordTimes", name := "sum", desc := "(I)I" } : Jvm.MethodName) ({ cls := "RecordTimes", name := "sum", desc := "(I)I" } : Jvm.MethodName)) ∈ wG := wG_of (List.mem_of_getElem? (i := 484) (by decide +kernel)) (by decide +kernel)
theorem q_466 : (Jvm.Cond.code ({ cls := "RecordTimes", name := "sum", desc := "(I)I" } : Jvm.MethodName) prog_1_method_8_code (2 : Nat) (Option.some Jvm.ClassFile.FieldType.int)) ∈ wG := wG_of (List.mem_of_getElem? (i := 485) (by decide +kernel)) (by decide +kernel)
theorem q_467 : (Jvm.Cond.methodLink "RecordTimesLaw" (110 : Nat) ({ cls := "RecordTimesLaw", name := "part", desc := "(LRecordTimes;III[J)I" } : Jvm.MethodName)) ∈ wG := wG_of (List.mem_of_getElem? (i := 486) (by decide +kernel)) (by decide +kernel)
theorem q_468 : (Jvm.Cond.static ({ cls := "RecordTimesLaw", name := "part", desc := "(LRecordTimes;III[J)I" } : Jvm.MethodName)) ∈ wG := wG_of (List.mem_of_getElem? (i := 487) (by decide +kernel)) (by decide +kernel)
theorem q_469 : (Jvm.Cond.codeWith ({ cls := "RecordTimesLaw", name := "part", desc := "(LRecordTimes;III[J)I" } : Jvm.MethodName) method_10_code (6 : Nat) (Option.some Jvm.ClassFile.FieldType.int) [((0 : Nat), (12 : Nat), (15 : Nat), (13 : Nat)), ((0 : Nat), (12 : Nat), (19 : Nat), (37 : Nat))]) ∈ wG := wG_of (List.mem_of_getElem? (i := 488) (by decide +kernel)) (by decide +kernel)
theorem q_470 : (Jvm.Cond.methodLink "RecordTimesLaw" (42 : Nat) ({ cls := "RecordTimes", name := "part", desc := "(III)I" } : Jvm.MethodName)) ∈ wG := wG_of (List.mem_of_getElem? (i := 489) (by decide +kernel)) (by decide +kernel)
theorem q_471 : (Jvm.Cond.instanceMethod ({ cls := "RecordTimes", name := "part", desc := "(III)I" } : Jvm.MethodName)) ∈ wG := wG_of (List.mem_of_getElem? (i := 490) (by decide +kernel)) (by decide +kernel)
theorem q_472 : (Jvm.Cond.selects "RecordTimes" ({ cls := "RecordTimes", name := "part", desc := "(III)I" } : Jvm.MethodName) ({ cls := "RecordTimes", name := "part", desc := "(III)I" } : Jvm.MethodName)) ∈ wG := wG_of (List.mem_of_getElem? (i := 491) (by decide +kernel)) (by decide +kernel)
theorem q_473 : (Jvm.Cond.code ({ cls := "RecordTimes", name := "part", desc := "(III)I" } : Jvm.MethodName) prog_1_method_9_code (4 : Nat) (Option.some Jvm.ClassFile.FieldType.int)) ∈ wG := wG_of (List.mem_of_getElem? (i := 492) (by decide +kernel)) (by decide +kernel)
theorem q_474 : (Jvm.Cond.methodLink "RecordTimesLaw" (121 : Nat) ({ cls := "RecordTimesLaw", name := "hold", desc := "(LRecordTimes;IZ)I" } : Jvm.MethodName)) ∈ wG := wG_of (List.mem_of_getElem? (i := 493) (by decide +kernel)) (by decide +kernel)
theorem q_475 : (Jvm.Cond.static ({ cls := "RecordTimesLaw", name := "hold", desc := "(LRecordTimes;IZ)I" } : Jvm.MethodName)) ∈ wG := wG_of (List.mem_of_getElem? (i := 494) (by decide +kernel)) (by decide +kernel)
theorem q_476 : (Jvm.Cond.codeWith ({ cls := "RecordTimesLaw", name := "hold", desc := "(LRecordTimes;IZ)I" } : Jvm.MethodName) method_11_code (4 : Nat) (Option.some Jvm.ClassFile.FieldType.int) [((0 : Nat), (6 : Nat), (9 : Nat), (13 : Nat)), ((0 : Nat), (6 : Nat), (12 : Nat), (37 : Nat))]) ∈ wG := wG_of (List.mem_of_getElem? (i := 495) (by decide +kernel)) (by decide +kernel)
theorem q_477 : (Jvm.Cond.methodLink "RecordTimesLaw" (45 : Nat) ({ cls := "RecordTimes", name := "hold", desc := "(IZ)V" } : Jvm.MethodName)) ∈ wG := wG_of (List.mem_of_getElem? (i := 496) (by decide +kernel)) (by decide +kernel)
theorem q_478 : (Jvm.Cond.instanceMethod ({ cls := "RecordTimes", name := "hold", desc := "(IZ)V" } : Jvm.MethodName)) ∈ wG := wG_of (List.mem_of_getElem? (i := 497) (by decide +kernel)) (by decide +kernel)
theorem q_479 : (Jvm.Cond.selects "RecordTimes" ({ cls := "RecordTimes", name := "hold", desc := "(IZ)V" } : Jvm.MethodName) ({ cls := "RecordTimes", name := "hold", desc := "(IZ)V" } : Jvm.MethodName)) ∈ wG := wG_of (List.mem_of_getElem? (i := 498) (by decide +kernel)) (by decide +kernel)
theorem q_480 : (Jvm.Cond.code ({ cls := "RecordTimes", name := "hold", desc := "(IZ)V" } : Jvm.MethodName) prog_1_method_12_code (3 : Nat) (Option.none : Option Jvm.ClassFile.FieldType)) ∈ wG := wG_of (List.mem_of_getElem? (i := 499) (by decide +kernel)) (by decide +kernel)
theorem q_482 : (Jvm.Cond.methodLink "RecordTimesLaw" (125 : Nat) ({ cls := "RecordTimesLaw", name := "drop", desc := "(LRecordTimes;I[J)I" } : Jvm.MethodName)) ∈ wG := wG_of (List.mem_of_getElem? (i := 501) (by decide +kernel)) (by decide +kernel)
theorem q_483 : (Jvm.Cond.static ({ cls := "RecordTimesLaw", name := "drop", desc := "(LRecordTimes;I[J)I" } : Jvm.MethodName)) ∈ wG := wG_of (List.mem_of_getElem? (i := 502) (by decide +kernel)) (by decide +kernel)
theorem q_484 : (Jvm.Cond.codeWith ({ cls := "RecordTimesLaw", name := "drop", desc := "(LRecordTimes;I[J)I" } : Jvm.MethodName) method_12_code (4 : Nat) (Option.some Jvm.ClassFile.FieldType.int) [((0 : Nat), (9 : Nat), (12 : Nat), (13 : Nat)), ((0 : Nat), (9 : Nat), (15 : Nat), (37 : Nat))]) ∈ wG := wG_of (List.mem_of_getElem? (i := 503) (by decide +kernel)) (by decide +kernel)
theorem q_485 : (Jvm.Cond.methodLink "RecordTimesLaw" (49 : Nat) ({ cls := "RecordTimes", name := "drop", desc := "(I)I" } : Jvm.MethodName)) ∈ wG := wG_of (List.mem_of_getElem? (i := 504) (by decide +kernel)) (by decide +kernel)
theorem q_486 : (Jvm.Cond.instanceMethod ({ cls := "RecordTimes", name := "drop", desc := "(I)I" } : Jvm.MethodName)) ∈ wG := wG_of (List.mem_of_getElem? (i := 505) (by decide +kernel)) (by decide +kernel)
theorem q_487 : (Jvm.Cond.selects "RecordTimes" ({ cls := "RecordTimes", name := "drop", desc := "(I)I" } : Jvm.MethodName) ({ cls := "RecordTimes", name := "drop", desc := "(I)I" } : Jvm.MethodName)) ∈ wG := wG_of (List.mem_of_getElem? (i := 506) (by decide +kernel)) (by decide +kernel)
theorem q_488 : (Jvm.Cond.code ({ cls := "RecordTimes", name := "drop", desc := "(I)I" } : Jvm.MethodName) prog_1_method_13_code (2 : Nat) (Option.some Jvm.ClassFile.FieldType.int)) ∈ wG := wG_of (List.mem_of_getElem? (i := 507) (by decide +kernel)) (by decide +kernel)
theorem q_490 : (Jvm.Cond.methodLink "RecordTimes" (152 : Nat) ({ cls := "RecordTimes$Line", name := "remove", desc := "(I)V" } : Jvm.MethodName)) ∈ wG := wG_of (List.mem_of_getElem? (i := 509) (by decide +kernel)) (by decide +kernel)
theorem q_491 : (Jvm.Cond.instanceMethod ({ cls := "RecordTimes$Line", name := "remove", desc := "(I)V" } : Jvm.MethodName)) ∈ wG := wG_of (List.mem_of_getElem? (i := 510) (by decide +kernel)) (by decide +kernel)
theorem q_492 : (Jvm.Cond.selects "RecordTimes$Line" ({ cls := "RecordTimes$Line", name := "remove", desc := "(I)V" } : Jvm.MethodName) ({ cls := "RecordTimes$Line", name := "remove", desc := "(I)V" } : Jvm.MethodName)) ∈ wG := wG_of (List.mem_of_getElem? (i := 511) (by decide +kernel)) (by decide +kernel)
theorem q_493 : (Jvm.Cond.code ({ cls := "RecordTimes$Line", name := "remove", desc := "(I)V" } : Jvm.MethodName) prog_3_method_3_code (4 : Nat) (Option.none : Option Jvm.ClassFile.FieldType)) ∈ wG := wG_of (List.mem_of_getElem? (i := 512) (by decide +kernel)) (by decide +kernel)
theorem q_494 : (Jvm.Cond.methodLink "RecordTimes" (158 : Nat) ({ cls := "RecordTimes$Certificates", name := "add", desc := "(III)I" } : Jvm.MethodName)) ∈ wG := wG_of (List.mem_of_getElem? (i := 513) (by decide +kernel)) (by decide +kernel)
theorem q_495 : (Jvm.Cond.instanceMethod ({ cls := "RecordTimes$Certificates", name := "add", desc := "(III)I" } : Jvm.MethodName)) ∈ wG := wG_of (List.mem_of_getElem? (i := 514) (by decide +kernel)) (by decide +kernel)
theorem q_496 : (Jvm.Cond.selects "RecordTimes$Certificates" ({ cls := "RecordTimes$Certificates", name := "add", desc := "(III)I" } : Jvm.MethodName) ({ cls := "RecordTimes$Certificates", name := "add", desc := "(III)I" } : Jvm.MethodName)) ∈ wG := wG_of (List.mem_of_getElem? (i := 515) (by decide +kernel)) (by decide +kernel)
theorem q_497 : (Jvm.Cond.code ({ cls := "RecordTimes$Certificates", name := "add", desc := "(III)I" } : Jvm.MethodName) prog_2_method_2_code (5 : Nat) (Option.some Jvm.ClassFile.FieldType.int)) ∈ wG := wG_of (List.mem_of_getElem? (i := 516) (by decide +kernel)) (by decide +kernel)
theorem q_498 : (Jvm.Cond.methodLink "RecordTimesLaw" (128 : Nat) ({ cls := "RecordTimesLaw", name := "certificate", desc := "(LRecordTimes;II[J)I" } : Jvm.MethodName)) ∈ wG := wG_of (List.mem_of_getElem? (i := 517) (by decide +kernel)) (by decide +kernel)
theorem q_499 : (Jvm.Cond.static ({ cls := "RecordTimesLaw", name := "certificate", desc := "(LRecordTimes;II[J)I" } : Jvm.MethodName)) ∈ wG := wG_of (List.mem_of_getElem? (i := 518) (by decide +kernel)) (by decide +kernel)
theorem q_500 : (Jvm.Cond.codeWith ({ cls := "RecordTimesLaw", name := "certificate", desc := "(LRecordTimes;II[J)I" } : Jvm.MethodName) method_13_code (5 : Nat) (Option.some Jvm.ClassFile.FieldType.int) [((0 : Nat), (10 : Nat), (13 : Nat), (13 : Nat))]) ∈ wG := wG_of (List.mem_of_getElem? (i := 519) (by decide +kernel)) (by decide +kernel)
theorem q_501 : (Jvm.Cond.methodLink "RecordTimesLaw" (52 : Nat) ({ cls := "RecordTimes", name := "certificate", desc := "(II)I" } : Jvm.MethodName)) ∈ wG := wG_of (List.mem_of_getElem? (i := 520) (by decide +kernel)) (by decide +kernel)
theorem q_502 : (Jvm.Cond.instanceMethod ({ cls := "RecordTimes", name := "certificate", desc := "(II)I" } : Jvm.MethodName)) ∈ wG := wG_of (List.mem_of_getElem? (i := 521) (by decide +kernel)) (by decide +kernel)
theorem q_503 : (Jvm.Cond.selects "RecordTimes" ({ cls := "RecordTimes", name := "certificate", desc := "(II)I" } : Jvm.MethodName) ({ cls := "RecordTimes", name := "certificate", desc := "(II)I" } : Jvm.MethodName)) ∈ wG := wG_of (List.mem_of_getElem? (i := 522) (by decide +kernel)) (by decide +kernel)
theorem q_504 : (Jvm.Cond.code ({ cls := "RecordTimes", name := "certificate", desc := "(II)I" } : Jvm.MethodName) prog_1_method_14_code (3 : Nat) (Option.some Jvm.ClassFile.FieldType.int)) ∈ wG := wG_of (List.mem_of_getElem? (i := 523) (by decide +kernel)) (by decide +kernel)
theorem q_507 : (Jvm.Cond.methodLink "RecordTimesLaw" (132 : Nat) ({ cls := "RecordTimesLaw", name := "right", desc := "(LRecordTimes;IIZ)I" } : Jvm.MethodName)) ∈ wG := wG_of (List.mem_of_getElem? (i := 526) (by decide +kernel)) (by decide +kernel)
theorem q_508 : (Jvm.Cond.static ({ cls := "RecordTimesLaw", name := "right", desc := "(LRecordTimes;IIZ)I" } : Jvm.MethodName)) ∈ wG := wG_of (List.mem_of_getElem? (i := 527) (by decide +kernel)) (by decide +kernel)
theorem q_509 : (Jvm.Cond.codeWith ({ cls := "RecordTimesLaw", name := "right", desc := "(LRecordTimes;IIZ)I" } : Jvm.MethodName) method_14_code (5 : Nat) (Option.some Jvm.ClassFile.FieldType.int) [((0 : Nat), (7 : Nat), (10 : Nat), (13 : Nat))]) ∈ wG := wG_of (List.mem_of_getElem? (i := 528) (by decide +kernel)) (by decide +kernel)
theorem q_510 : (Jvm.Cond.methodLink "RecordTimesLaw" (56 : Nat) ({ cls := "RecordTimes", name := "right", desc := "(IIZ)V" } : Jvm.MethodName)) ∈ wG := wG_of (List.mem_of_getElem? (i := 529) (by decide +kernel)) (by decide +kernel)
theorem q_511 : (Jvm.Cond.instanceMethod ({ cls := "RecordTimes", name := "right", desc := "(IIZ)V" } : Jvm.MethodName)) ∈ wG := wG_of (List.mem_of_getElem? (i := 530) (by decide +kernel)) (by decide +kernel)
theorem q_512 : (Jvm.Cond.selects "RecordTimes" ({ cls := "RecordTimes", name := "right", desc := "(IIZ)V" } : Jvm.MethodName) ({ cls := "RecordTimes", name := "right", desc := "(IIZ)V" } : Jvm.MethodName)) ∈ wG := wG_of (List.mem_of_getElem? (i := 531) (by decide +kernel)) (by decide +kernel)
theorem q_513 : (Jvm.Cond.code ({ cls := "RecordTimes", name := "right", desc := "(IIZ)V" } : Jvm.MethodName) prog_1_method_15_code (4 : Nat) (Option.none : Option Jvm.ClassFile.FieldType)) ∈ wG := wG_of (List.mem_of_getElem? (i := 532) (by decide +kernel)) (by decide +kernel)
theorem q_514 : (Jvm.Cond.methodLink "RecordTimes" (175 : Nat) ({ cls := "RecordTimes", name := "checkPerson", desc := "(I)V" } : Jvm.MethodName)) ∈ wG := wG_of (List.mem_of_getElem? (i := 533) (by decide +kernel)) (by decide +kernel)
theorem q_515 : (Jvm.Cond.static ({ cls := "RecordTimes", name := "checkPerson", desc := "(I)V" } : Jvm.MethodName)) ∈ wG := wG_of (List.mem_of_getElem? (i := 534) (by decide +kernel)) (by decide +kernel)
theorem q_516 : (Jvm.Cond.code ({ cls := "RecordTimes", name := "checkPerson", desc := "(I)V" } : Jvm.MethodName) prog_1_method_24_code (1 : Nat) (Option.none : Option Jvm.ClassFile.FieldType)) ∈ wG := wG_of (List.mem_of_getElem? (i := 535) (by decide +kernel)) (by decide +kernel)
theorem q_518 : (Jvm.Cond.methodLink "RecordTimes" (178 : Nat) ({ cls := "RecordTimes$Listeners", name := "allow", desc := "(IIZ)V" } : Jvm.MethodName)) ∈ wG := wG_of (List.mem_of_getElem? (i := 537) (by decide +kernel)) (by decide +kernel)
theorem q_519 : (Jvm.Cond.instanceMethod ({ cls := "RecordTimes$Listeners", name := "allow", desc := "(IIZ)V" } : Jvm.MethodName)) ∈ wG := wG_of (List.mem_of_getElem? (i := 538) (by decide +kernel)) (by decide +kernel)
theorem q_520 : (Jvm.Cond.selects "RecordTimes$Listeners" ({ cls := "RecordTimes$Listeners", name := "allow", desc := "(IIZ)V" } : Jvm.MethodName) ({ cls := "RecordTimes$Listeners", name := "allow", desc := "(IIZ)V" } : Jvm.MethodName)) ∈ wG := wG_of (List.mem_of_getElem? (i := 539) (by decide +kernel)) (by decide +kernel)
theorem q_521 : (Jvm.Cond.code ({ cls := "RecordTimes$Listeners", name := "allow", desc := "(IIZ)V" } : Jvm.MethodName) prog_4_method_2_code (4 : Nat) (Option.none : Option Jvm.ClassFile.FieldType)) ∈ wG := wG_of (List.mem_of_getElem? (i := 540) (by decide +kernel)) (by decide +kernel)
theorem q_522 : (Jvm.Cond.methodLink "RecordTimesLaw" (136 : Nat) ({ cls := "RecordTimesLaw", name := "listen", desc := "(LRecordTimes;II[J)I" } : Jvm.MethodName)) ∈ wG := wG_of (List.mem_of_getElem? (i := 541) (by decide +kernel)) (by decide +kernel)
theorem q_523 : (Jvm.Cond.static ({ cls := "RecordTimesLaw", name := "listen", desc := "(LRecordTimes;II[J)I" } : Jvm.MethodName)) ∈ wG := wG_of (List.mem_of_getElem? (i := 542) (by decide +kernel)) (by decide +kernel)
theorem q_524 : (Jvm.Cond.codeWith ({ cls := "RecordTimesLaw", name := "listen", desc := "(LRecordTimes;II[J)I" } : Jvm.MethodName) method_15_code (5 : Nat) (Option.some Jvm.ClassFile.FieldType.int) [((0 : Nat), (10 : Nat), (13 : Nat), (13 : Nat)), ((0 : Nat), (10 : Nat), (17 : Nat), (37 : Nat))]) ∈ wG := wG_of (List.mem_of_getElem? (i := 543) (by decide +kernel)) (by decide +kernel)
theorem q_525 : (Jvm.Cond.methodLink "RecordTimesLaw" (60 : Nat) ({ cls := "RecordTimes", name := "listen", desc := "(II)I" } : Jvm.MethodName)) ∈ wG := wG_of (List.mem_of_getElem? (i := 544) (by decide +kernel)) (by decide +kernel)
theorem q_526 : (Jvm.Cond.instanceMethod ({ cls := "RecordTimes", name := "listen", desc := "(II)I" } : Jvm.MethodName)) ∈ wG := wG_of (List.mem_of_getElem? (i := 545) (by decide +kernel)) (by decide +kernel)
theorem q_527 : (Jvm.Cond.selects "RecordTimes" ({ cls := "RecordTimes", name := "listen", desc := "(II)I" } : Jvm.MethodName) ({ cls := "RecordTimes", name := "listen", desc := "(II)I" } : Jvm.MethodName)) ∈ wG := wG_of (List.mem_of_getElem? (i := 546) (by decide +kernel)) (by decide +kernel)
theorem q_528 : (Jvm.Cond.code ({ cls := "RecordTimes", name := "listen", desc := "(II)I" } : Jvm.MethodName) prog_1_method_16_code (4 : Nat) (Option.some Jvm.ClassFile.FieldType.int)) ∈ wG := wG_of (List.mem_of_getElem? (i := 547) (by decide +kernel)) (by decide +kernel)
theorem q_529 : (Jvm.Cond.methodLink "RecordTimes" (182 : Nat) ({ cls := "RecordTimes$Listeners", name := "mayHear", desc := "(II)Z" } : Jvm.MethodName)) ∈ wG := wG_of (List.mem_of_getElem? (i := 548) (by decide +kernel)) (by decide +kernel)
theorem q_530 : (Jvm.Cond.instanceMethod ({ cls := "RecordTimes$Listeners", name := "mayHear", desc := "(II)Z" } : Jvm.MethodName)) ∈ wG := wG_of (List.mem_of_getElem? (i := 549) (by decide +kernel)) (by decide +kernel)
theorem q_531 : (Jvm.Cond.selects "RecordTimes$Listeners" ({ cls := "RecordTimes$Listeners", name := "mayHear", desc := "(II)Z" } : Jvm.MethodName) ({ cls := "RecordTimes$Listeners", name := "mayHear", desc := "(II)Z" } : Jvm.MethodName)) ∈ wG := wG_of (List.mem_of_getElem? (i := 550) (by decide +kernel)) (by decide +kernel)
theorem q_532 : (Jvm.Cond.code ({ cls := "RecordTimes$Listeners", name := "mayHear", desc := "(II)Z" } : Jvm.MethodName) prog_4_method_3_code (3 : Nat) (Option.some Jvm.ClassFile.FieldType.boolean)) ∈ wG := wG_of (List.mem_of_getElem? (i := 551) (by decide +kernel)) (by decide +kernel)
theorem q_533 : (Jvm.Cond.methodLink "RecordTimes" (186 : Nat) ({ cls := "RecordTimes$Listeners", name := "keepRow", desc := "(IIZ)V" } : Jvm.MethodName)) ∈ wG := wG_of (List.mem_of_getElem? (i := 552) (by decide +kernel)) (by decide +kernel)
theorem q_534 : (Jvm.Cond.instanceMethod ({ cls := "RecordTimes$Listeners", name := "keepRow", desc := "(IIZ)V" } : Jvm.MethodName)) ∈ wG := wG_of (List.mem_of_getElem? (i := 553) (by decide +kernel)) (by decide +kernel)
theorem q_535 : (Jvm.Cond.selects "RecordTimes$Listeners" ({ cls := "RecordTimes$Listeners", name := "keepRow", desc := "(IIZ)V" } : Jvm.MethodName) ({ cls := "RecordTimes$Listeners", name := "keepRow", desc := "(IIZ)V" } : Jvm.MethodName)) ∈ wG := wG_of (List.mem_of_getElem? (i := 554) (by decide +kernel)) (by decide +kernel)
theorem q_536 : (Jvm.Cond.code ({ cls := "RecordTimes$Listeners", name := "keepRow", desc := "(IIZ)V" } : Jvm.MethodName) prog_4_method_4_code (5 : Nat) (Option.none : Option Jvm.ClassFile.FieldType)) ∈ wG := wG_of (List.mem_of_getElem? (i := 555) (by decide +kernel)) (by decide +kernel)
theorem q_537 : (Jvm.Cond.methodLink "RecordTimes$Listeners" (29 : Nat) ({ cls := "java/lang/Math", name := "floorMod", desc := "(II)I" } : Jvm.MethodName)) ∈ wG := wG_of (List.mem_of_getElem? (i := 556) (by decide +kernel)) (by decide +kernel)
theorem q_538 : (Jvm.Cond.static ({ cls := "java/lang/Math", name := "floorMod", desc := "(II)I" } : Jvm.MethodName)) ∈ wG := wG_of (List.mem_of_getElem? (i := 557) (by decide +kernel)) (by decide +kernel)
theorem q_539 : (Jvm.Cond.code ({ cls := "java/lang/Math", name := "floorMod", desc := "(II)I" } : Jvm.MethodName) prog_13_method_50_code (3 : Nat) (Option.some Jvm.ClassFile.FieldType.int)) ∈ wG := wG_of (List.mem_of_getElem? (i := 558) (by decide +kernel)) (by decide +kernel)
theorem q_541 : (Jvm.Cond.methodLink "RecordTimesLaw" (139 : Nat) ({ cls := "RecordTimesLaw", name := "row", desc := "(LRecordTimes;II[J)I" } : Jvm.MethodName)) ∈ wG := wG_of (List.mem_of_getElem? (i := 560) (by decide +kernel)) (by decide +kernel)
theorem q_542 : (Jvm.Cond.static ({ cls := "RecordTimesLaw", name := "row", desc := "(LRecordTimes;II[J)I" } : Jvm.MethodName)) ∈ wG := wG_of (List.mem_of_getElem? (i := 561) (by decide +kernel)) (by decide +kernel)
theorem q_543 : (Jvm.Cond.codeWith ({ cls := "RecordTimesLaw", name := "row", desc := "(LRecordTimes;II[J)I" } : Jvm.MethodName) method_16_code (5 : Nat) (Option.some Jvm.ClassFile.FieldType.int) [((0 : Nat), (10 : Nat), (13 : Nat), (13 : Nat))]) ∈ wG := wG_of (List.mem_of_getElem? (i := 562) (by decide +kernel)) (by decide +kernel)
theorem q_544 : (Jvm.Cond.methodLink "RecordTimesLaw" (63 : Nat) ({ cls := "RecordTimes", name := "row", desc := "(II)I" } : Jvm.MethodName)) ∈ wG := wG_of (List.mem_of_getElem? (i := 563) (by decide +kernel)) (by decide +kernel)
theorem q_545 : (Jvm.Cond.instanceMethod ({ cls := "RecordTimes", name := "row", desc := "(II)I" } : Jvm.MethodName)) ∈ wG := wG_of (List.mem_of_getElem? (i := 564) (by decide +kernel)) (by decide +kernel)
theorem q_546 : (Jvm.Cond.selects "RecordTimes" ({ cls := "RecordTimes", name := "row", desc := "(II)I" } : Jvm.MethodName) ({ cls := "RecordTimes", name := "row", desc := "(II)I" } : Jvm.MethodName)) ∈ wG := wG_of (List.mem_of_getElem? (i := 565) (by decide +kernel)) (by decide +kernel)
theorem q_547 : (Jvm.Cond.code ({ cls := "RecordTimes", name := "row", desc := "(II)I" } : Jvm.MethodName) prog_1_method_17_code (4 : Nat) (Option.some Jvm.ClassFile.FieldType.int)) ∈ wG := wG_of (List.mem_of_getElem? (i := 566) (by decide +kernel)) (by decide +kernel)
theorem q_548 : (Jvm.Cond.methodLink "RecordTimes" (191 : Nat) ({ cls := "RecordTimes$Listeners", name := "isKept", desc := "(I)Z" } : Jvm.MethodName)) ∈ wG := wG_of (List.mem_of_getElem? (i := 567) (by decide +kernel)) (by decide +kernel)
theorem q_549 : (Jvm.Cond.instanceMethod ({ cls := "RecordTimes$Listeners", name := "isKept", desc := "(I)Z" } : Jvm.MethodName)) ∈ wG := wG_of (List.mem_of_getElem? (i := 568) (by decide +kernel)) (by decide +kernel)
theorem q_550 : (Jvm.Cond.selects "RecordTimes$Listeners" ({ cls := "RecordTimes$Listeners", name := "isKept", desc := "(I)Z" } : Jvm.MethodName) ({ cls := "RecordTimes$Listeners", name := "isKept", desc := "(I)Z" } : Jvm.MethodName)) ∈ wG := wG_of (List.mem_of_getElem? (i := 569) (by decide +kernel)) (by decide +kernel)
theorem q_551 : (Jvm.Cond.code ({ cls := "RecordTimes$Listeners", name := "isKept", desc := "(I)Z" } : Jvm.MethodName) prog_4_method_5_code (2 : Nat) (Option.some Jvm.ClassFile.FieldType.boolean)) ∈ wG := wG_of (List.mem_of_getElem? (i := 570) (by decide +kernel)) (by decide +kernel)
theorem q_554 : (Jvm.Cond.methodLink "RecordTimesLaw" (142 : Nat) ({ cls := "RecordTimesLaw", name := "poke", desc := "(LRecordTimes;III)I" } : Jvm.MethodName)) ∈ wG := wG_of (List.mem_of_getElem? (i := 573) (by decide +kernel)) (by decide +kernel)
theorem q_555 : (Jvm.Cond.static ({ cls := "RecordTimesLaw", name := "poke", desc := "(LRecordTimes;III)I" } : Jvm.MethodName)) ∈ wG := wG_of (List.mem_of_getElem? (i := 574) (by decide +kernel)) (by decide +kernel)
theorem q_556 : (Jvm.Cond.codeWith ({ cls := "RecordTimesLaw", name := "poke", desc := "(LRecordTimes;III)I" } : Jvm.MethodName) method_17_code (5 : Nat) (Option.some Jvm.ClassFile.FieldType.int) [((0 : Nat), (7 : Nat), (10 : Nat), (13 : Nat)), ((0 : Nat), (7 : Nat), (14 : Nat), (15 : Nat)), ((0 : Nat), (7 : Nat), (18 : Nat), (37 : Nat))]) ∈ wG := wG_of (List.mem_of_getElem? (i := 575) (by decide +kernel)) (by decide +kernel)
theorem q_557 : (Jvm.Cond.methodLink "RecordTimesLaw" (66 : Nat) ({ cls := "RecordTimes", name := "poke", desc := "(III)V" } : Jvm.MethodName)) ∈ wG := wG_of (List.mem_of_getElem? (i := 576) (by decide +kernel)) (by decide +kernel)
theorem q_558 : (Jvm.Cond.instanceMethod ({ cls := "RecordTimes", name := "poke", desc := "(III)V" } : Jvm.MethodName)) ∈ wG := wG_of (List.mem_of_getElem? (i := 577) (by decide +kernel)) (by decide +kernel)
theorem q_559 : (Jvm.Cond.selects "RecordTimes" ({ cls := "RecordTimes", name := "poke", desc := "(III)V" } : Jvm.MethodName) ({ cls := "RecordTimes", name := "poke", desc := "(III)V" } : Jvm.MethodName)) ∈ wG := wG_of (List.mem_of_getElem? (i := 578) (by decide +kernel)) (by decide +kernel)
theorem q_560 : (Jvm.Cond.code ({ cls := "RecordTimes", name := "poke", desc := "(III)V" } : Jvm.MethodName) prog_1_method_18_code (4 : Nat) (Option.none : Option Jvm.ClassFile.FieldType)) ∈ wG := wG_of (List.mem_of_getElem? (i := 579) (by decide +kernel)) (by decide +kernel)
theorem q_563 : (Jvm.Cond.methodLink "RecordTimes" (212 : Nat) ({ cls := "RecordTimes$Slots", name := "alter", desc := "(III)V" } : Jvm.MethodName)) ∈ wG := wG_of (List.mem_of_getElem? (i := 582) (by decide +kernel)) (by decide +kernel)
theorem q_564 : (Jvm.Cond.instanceMethod ({ cls := "RecordTimes$Slots", name := "alter", desc := "(III)V" } : Jvm.MethodName)) ∈ wG := wG_of (List.mem_of_getElem? (i := 583) (by decide +kernel)) (by decide +kernel)
theorem q_565 : (Jvm.Cond.selects "RecordTimes$Slots" ({ cls := "RecordTimes$Slots", name := "alter", desc := "(III)V" } : Jvm.MethodName) ({ cls := "RecordTimes$Slots", name := "alter", desc := "(III)V" } : Jvm.MethodName)) ∈ wG := wG_of (List.mem_of_getElem? (i := 584) (by decide +kernel)) (by decide +kernel)
theorem q_566 : (Jvm.Cond.code ({ cls := "RecordTimes$Slots", name := "alter", desc := "(III)V" } : Jvm.MethodName) prog_6_method_6_code (4 : Nat) (Option.none : Option Jvm.ClassFile.FieldType)) ∈ wG := wG_of (List.mem_of_getElem? (i := 585) (by decide +kernel)) (by decide +kernel)
theorem q_567 : (Jvm.Cond.methodLink "RecordTimesLaw" (150 : Nat) ({ cls := "RecordTimesLaw", name := "count", desc := "(LRecordTimes;I[J)I" } : Jvm.MethodName)) ∈ wG := wG_of (List.mem_of_getElem? (i := 586) (by decide +kernel)) (by decide +kernel)
theorem q_568 : (Jvm.Cond.static ({ cls := "RecordTimesLaw", name := "count", desc := "(LRecordTimes;I[J)I" } : Jvm.MethodName)) ∈ wG := wG_of (List.mem_of_getElem? (i := 587) (by decide +kernel)) (by decide +kernel)
theorem q_569 : (Jvm.Cond.codeWith ({ cls := "RecordTimesLaw", name := "count", desc := "(LRecordTimes;I[J)I" } : Jvm.MethodName) method_18_code (4 : Nat) (Option.some Jvm.ClassFile.FieldType.int) [((0 : Nat), (9 : Nat), (12 : Nat), (13 : Nat))]) ∈ wG := wG_of (List.mem_of_getElem? (i := 588) (by decide +kernel)) (by decide +kernel)
theorem q_570 : (Jvm.Cond.methodLink "RecordTimesLaw" (70 : Nat) ({ cls := "RecordTimes", name := "count", desc := "(I)I" } : Jvm.MethodName)) ∈ wG := wG_of (List.mem_of_getElem? (i := 589) (by decide +kernel)) (by decide +kernel)
theorem q_571 : (Jvm.Cond.instanceMethod ({ cls := "RecordTimes", name := "count", desc := "(I)I" } : Jvm.MethodName)) ∈ wG := wG_of (List.mem_of_getElem? (i := 590) (by decide +kernel)) (by decide +kernel)
theorem q_572 : (Jvm.Cond.selects "RecordTimes" ({ cls := "RecordTimes", name := "count", desc := "(I)I" } : Jvm.MethodName) ({ cls := "RecordTimes", name := "count", desc := "(I)I" } : Jvm.MethodName)) ∈ wG := wG_of (List.mem_of_getElem? (i := 591) (by decide +kernel)) (by decide +kernel)
theorem q_573 : (Jvm.Cond.code ({ cls := "RecordTimes", name := "count", desc := "(I)I" } : Jvm.MethodName) prog_1_method_20_code (2 : Nat) (Option.some Jvm.ClassFile.FieldType.int)) ∈ wG := wG_of (List.mem_of_getElem? (i := 592) (by decide +kernel)) (by decide +kernel)
theorem q_575 : (Jvm.Cond.classLink "RecordTimesLaw" (74 : Nat) "RecordTimesModel") ∈ wG := wG_of (List.mem_of_getElem? (i := 594) (by decide +kernel)) (by decide +kernel)
theorem q_576 : (Jvm.Cond.instantiable "RecordTimesModel" (20 : Nat)) ∈ wG := wG_of (List.mem_of_getElem? (i := 595) (by decide +kernel)) (by decide +kernel)
theorem q_577 : (Jvm.Cond.methodLink "RecordTimesLaw" (76 : Nat) ({ cls := "RecordTimesModel", name := "<init>", desc := "()V" } : Jvm.MethodName)) ∈ wG := wG_of (List.mem_of_getElem? (i := 596) (by decide +kernel)) (by decide +kernel)
theorem q_578 : (Jvm.Cond.instanceMethod ({ cls := "RecordTimesModel", name := "<init>", desc := "()V" } : Jvm.MethodName)) ∈ wG := wG_of (List.mem_of_getElem? (i := 597) (by decide +kernel)) (by decide +kernel)
theorem q_579 : (Jvm.Cond.code ({ cls := "RecordTimesModel", name := "<init>", desc := "()V" } : Jvm.MethodName) prog_8_method_1_code (1 : Nat) (Option.none : Option Jvm.ClassFile.FieldType)) ∈ wG := wG_of (List.mem_of_getElem? (i := 598) (by decide +kernel)) (by decide +kernel)
theorem q_580 : (Jvm.Cond.methodLink "RecordTimesModel" (1 : Nat) ({ cls := "java/lang/Object", name := "<init>", desc := "()V" } : Jvm.MethodName)) ∈ wG := wG_of (List.mem_of_getElem? (i := 599) (by decide +kernel)) (by decide +kernel)
theorem q_581 : (Jvm.Cond.fieldLink "RecordTimesModel" (56 : Nat) "RecordTimesModel" "thrown" "I") ∈ wG := wG_of (List.mem_of_getElem? (i := 600) (by decide +kernel)) (by decide +kernel)
theorem q_582 : (Jvm.Cond.fieldLink "RecordTimesModel" (60 : Nat) "RecordTimesModel" "slots" "I") ∈ wG := wG_of (List.mem_of_getElem? (i := 601) (by decide +kernel)) (by decide +kernel)
theorem q_583 : (Jvm.Cond.fieldLink "RecordTimesModel" (7 : Nat) "RecordTimesModel" "source" "[I") ∈ wG := wG_of (List.mem_of_getElem? (i := 602) (by decide +kernel)) (by decide +kernel)
theorem q_584 : (Jvm.Cond.fieldLink "RecordTimesModel" (13 : Nat) "RecordTimesModel" "clock" "[I") ∈ wG := wG_of (List.mem_of_getElem? (i := 603) (by decide +kernel)) (by decide +kernel)
theorem q_585 : (Jvm.Cond.fieldLink "RecordTimesModel" (16 : Nat) "RecordTimesModel" "length" "[I") ∈ wG := wG_of (List.mem_of_getElem? (i := 604) (by decide +kernel)) (by decide +kernel)
theorem q_586 : (Jvm.Cond.fieldLink "RecordTimesModel" (19 : Nat) "RecordTimesModel" "bytes" "[I") ∈ wG := wG_of (List.mem_of_getElem? (i := 605) (by decide +kernel)) (by decide +kernel)
theorem q_587 : (Jvm.Cond.fieldLink "RecordTimesModel" (22 : Nat) "RecordTimesModel" "unit" "[I") ∈ wG := wG_of (List.mem_of_getElem? (i := 606) (by decide +kernel)) (by decide +kernel)
theorem q_588 : (Jvm.Cond.fieldLink "RecordTimesModel" (25 : Nat) "RecordTimesModel" "incident" "[I") ∈ wG := wG_of (List.mem_of_getElem? (i := 607) (by decide +kernel)) (by decide +kernel)
theorem q_589 : (Jvm.Cond.fieldLink "RecordTimesModel" (28 : Nat) "RecordTimesModel" "kept" "[I") ∈ wG := wG_of (List.mem_of_getElem? (i := 608) (by decide +kernel)) (by decide +kernel)
theorem q_590 : (Jvm.Cond.fieldLink "RecordTimesModel" (31 : Nat) "RecordTimesModel" "dropped" "[Z") ∈ wG := wG_of (List.mem_of_getElem? (i := 609) (by decide +kernel)) (by decide +kernel)
theorem q_591 : (Jvm.Cond.fieldLink "RecordTimesModel" (81 : Nat) "RecordTimesModel" "marks" "I") ∈ wG := wG_of (List.mem_of_getElem? (i := 610) (by decide +kernel)) (by decide +kernel)
theorem q_592 : (Jvm.Cond.fieldLink "RecordTimesModel" (35 : Nat) "RecordTimesModel" "markSource" "[I") ∈ wG := wG_of (List.mem_of_getElem? (i := 611) (by decide +kernel)) (by decide +kernel)
theorem q_593 : (Jvm.Cond.fieldLink "RecordTimesModel" (38 : Nat) "RecordTimesModel" "markOffset" "[I") ∈ wG := wG_of (List.mem_of_getElem? (i := 612) (by decide +kernel)) (by decide +kernel)
theorem q_594 : (Jvm.Cond.fieldLink "RecordTimesModel" (41 : Nat) "RecordTimesModel" "held" "[Z") ∈ wG := wG_of (List.mem_of_getElem? (i := 613) (by decide +kernel)) (by decide +kernel)
theorem q_595 : (Jvm.Cond.fieldLink "RecordTimesModel" (44 : Nat) "RecordTimesModel" "rights" "[Z") ∈ wG := wG_of (List.mem_of_getElem? (i := 614) (by decide +kernel)) (by decide +kernel)
theorem q_596 : (Jvm.Cond.fieldLink "RecordTimesModel" (120 : Nat) "RecordTimesModel" "certificates" "I") ∈ wG := wG_of (List.mem_of_getElem? (i := 615) (by decide +kernel)) (by decide +kernel)
theorem q_597 : (Jvm.Cond.fieldLink "RecordTimesModel" (47 : Nat) "RecordTimesModel" "certified" "[I") ∈ wG := wG_of (List.mem_of_getElem? (i := 616) (by decide +kernel)) (by decide +kernel)
theorem q_598 : (Jvm.Cond.fieldLink "RecordTimesModel" (50 : Nat) "RecordTimesModel" "sumThen" "[I") ∈ wG := wG_of (List.mem_of_getElem? (i := 617) (by decide +kernel)) (by decide +kernel)
theorem q_599 : (Jvm.Cond.fieldLink "RecordTimesModel" (123 : Nat) "RecordTimesModel" "rows" "I") ∈ wG := wG_of (List.mem_of_getElem? (i := 618) (by decide +kernel)) (by decide +kernel)
theorem q_600 : (Jvm.Cond.fieldLink "RecordTimesModel" (53 : Nat) "RecordTimesModel" "told" "[I") ∈ wG := wG_of (List.mem_of_getElem? (i := 619) (by decide +kernel)) (by decide +kernel)
theorem q_642 : (Jvm.Cond.methodLink "RecordTimesLaw" (85 : Nat) ({ cls := "RecordTimesModel", name := "thrown", desc := "()I" } : Jvm.MethodName)) ∈ wG := wG_of (List.mem_of_getElem? (i := 661) (by decide +kernel)) (by decide +kernel)
theorem q_643 : (Jvm.Cond.instanceMethod ({ cls := "RecordTimesModel", name := "thrown", desc := "()I" } : Jvm.MethodName)) ∈ wG := wG_of (List.mem_of_getElem? (i := 662) (by decide +kernel)) (by decide +kernel)
theorem q_644 : (Jvm.Cond.selects "RecordTimesModel" ({ cls := "RecordTimesModel", name := "thrown", desc := "()I" } : Jvm.MethodName) ({ cls := "RecordTimesModel", name := "thrown", desc := "()I" } : Jvm.MethodName)) ∈ wG := wG_of (List.mem_of_getElem? (i := 663) (by decide +kernel)) (by decide +kernel)
theorem q_645 : (Jvm.Cond.code ({ cls := "RecordTimesModel", name := "thrown", desc := "()I" } : Jvm.MethodName) prog_8_method_2_code (1 : Nat) (Option.some Jvm.ClassFile.FieldType.int)) ∈ wG := wG_of (List.mem_of_getElem? (i := 664) (by decide +kernel)) (by decide +kernel)
theorem q_646 : (Jvm.Cond.methodLink "RecordTimesLaw" (84 : Nat) ({ cls := "RecordTimesModel", name := "slot", desc := "(IIIJII)I" } : Jvm.MethodName)) ∈ wG := wG_of (List.mem_of_getElem? (i := 665) (by decide +kernel)) (by decide +kernel)
theorem q_647 : (Jvm.Cond.instanceMethod ({ cls := "RecordTimesModel", name := "slot", desc := "(IIIJII)I" } : Jvm.MethodName)) ∈ wG := wG_of (List.mem_of_getElem? (i := 666) (by decide +kernel)) (by decide +kernel)
theorem q_648 : (Jvm.Cond.selects "RecordTimesModel" ({ cls := "RecordTimesModel", name := "slot", desc := "(IIIJII)I" } : Jvm.MethodName) ({ cls := "RecordTimesModel", name := "slot", desc := "(IIIJII)I" } : Jvm.MethodName)) ∈ wG := wG_of (List.mem_of_getElem? (i := 667) (by decide +kernel)) (by decide +kernel)
theorem q_649 : (Jvm.Cond.code ({ cls := "RecordTimesModel", name := "slot", desc := "(IIIJII)I" } : Jvm.MethodName) prog_8_method_8_code (11 : Nat) (Option.some Jvm.ClassFile.FieldType.int)) ∈ wG := wG_of (List.mem_of_getElem? (i := 668) (by decide +kernel)) (by decide +kernel)
theorem q_650 : (Jvm.Cond.methodLink "RecordTimesModel" (63 : Nat) ({ cls := "RecordTimesModel", name := "in", desc := "(III)Z" } : Jvm.MethodName)) ∈ wG := wG_of (List.mem_of_getElem? (i := 669) (by decide +kernel)) (by decide +kernel)
theorem q_651 : (Jvm.Cond.static ({ cls := "RecordTimesModel", name := "in", desc := "(III)Z" } : Jvm.MethodName)) ∈ wG := wG_of (List.mem_of_getElem? (i := 670) (by decide +kernel)) (by decide +kernel)
theorem q_652 : (Jvm.Cond.code ({ cls := "RecordTimesModel", name := "in", desc := "(III)Z" } : Jvm.MethodName) prog_8_method_4_code (3 : Nat) (Option.some Jvm.ClassFile.FieldType.boolean)) ∈ wG := wG_of (List.mem_of_getElem? (i := 671) (by decide +kernel)) (by decide +kernel)
theorem q_653 : (Jvm.Cond.constant "RecordTimesModel" (72 : Nat) (9999999 : Int32)) ∈ wG := wG_of (List.mem_of_getElem? (i := 672) (by decide +kernel)) (by decide +kernel)
theorem q_654 : (Jvm.Cond.methodLink "RecordTimesModel" (73 : Nat) ({ cls := "RecordTimesModel", name := "throwing", desc := "(ZZZ)Z" } : Jvm.MethodName)) ∈ wG := wG_of (List.mem_of_getElem? (i := 673) (by decide +kernel)) (by decide +kernel)
theorem q_656 : (Jvm.Cond.instanceMethod ({ cls := "RecordTimesModel", name := "throwing", desc := "(ZZZ)Z" } : Jvm.MethodName)) ∈ wG := wG_of (List.mem_of_getElem? (i := 675) (by decide +kernel)) (by decide +kernel)
theorem q_657 : (Jvm.Cond.code ({ cls := "RecordTimesModel", name := "throwing", desc := "(ZZZ)Z" } : Jvm.MethodName) prog_8_method_3_code (4 : Nat) (Option.some Jvm.ClassFile.FieldType.boolean)) ∈ wG := wG_of (List.mem_of_getElem? (i := 676) (by decide +kernel)) (by decide +kernel)
theorem q_658 : (Jvm.Cond.methodLink "RecordTimesModel" (77 : Nat) ({ cls := "RecordTimesModel", name := "sumOf", desc := "(I)I" } : Jvm.MethodName)) ∈ wG := wG_of (List.mem_of_getElem? (i := 677) (by decide +kernel)) (by decide +kernel)
theorem q_660 : (Jvm.Cond.instanceMethod ({ cls := "RecordTimesModel", name := "sumOf", desc := "(I)I" } : Jvm.MethodName)) ∈ wG := wG_of (List.mem_of_getElem? (i := 679) (by decide +kernel)) (by decide +kernel)
theorem q_661 : (Jvm.Cond.code ({ cls := "RecordTimesModel", name := "sumOf", desc := "(I)I" } : Jvm.MethodName) prog_8_method_7_code (4 : Nat) (Option.some Jvm.ClassFile.FieldType.int)) ∈ wG := wG_of (List.mem_of_getElem? (i := 680) (by decide +kernel)) (by decide +kernel)
theorem q_662 : (Jvm.Cond.methodLink "RecordTimesModel" (68 : Nat) ({ cls := "RecordTimesModel", name := "with", desc := "(II)I" } : Jvm.MethodName)) ∈ wG := wG_of (List.mem_of_getElem? (i := 681) (by decide +kernel)) (by decide +kernel)
theorem q_663 : (Jvm.Cond.static ({ cls := "RecordTimesModel", name := "with", desc := "(II)I" } : Jvm.MethodName)) ∈ wG := wG_of (List.mem_of_getElem? (i := 682) (by decide +kernel)) (by decide +kernel)
theorem q_664 : (Jvm.Cond.code ({ cls := "RecordTimesModel", name := "with", desc := "(II)I" } : Jvm.MethodName) prog_8_method_6_code (3 : Nat) (Option.some Jvm.ClassFile.FieldType.int)) ∈ wG := wG_of (List.mem_of_getElem? (i := 683) (by decide +kernel)) (by decide +kernel)
theorem q_665 : (Jvm.Cond.constant "RecordTimesModel" (67 : Nat) (-2048144789 : Int32)) ∈ wG := wG_of (List.mem_of_getElem? (i := 684) (by decide +kernel)) (by decide +kernel)
theorem q_666 : (Jvm.Cond.methodLink "RecordTimesLaw" (92 : Nat) ({ cls := "RecordTimesModel", name := "mark", desc := "(III)I" } : Jvm.MethodName)) ∈ wG := wG_of (List.mem_of_getElem? (i := 685) (by decide +kernel)) (by decide +kernel)
theorem q_667 : (Jvm.Cond.instanceMethod ({ cls := "RecordTimesModel", name := "mark", desc := "(III)I" } : Jvm.MethodName)) ∈ wG := wG_of (List.mem_of_getElem? (i := 686) (by decide +kernel)) (by decide +kernel)
theorem q_668 : (Jvm.Cond.selects "RecordTimesModel" ({ cls := "RecordTimesModel", name := "mark", desc := "(III)I" } : Jvm.MethodName) ({ cls := "RecordTimesModel", name := "mark", desc := "(III)I" } : Jvm.MethodName)) ∈ wG := wG_of (List.mem_of_getElem? (i := 687) (by decide +kernel)) (by decide +kernel)
theorem q_669 : (Jvm.Cond.code ({ cls := "RecordTimesModel", name := "mark", desc := "(III)I" } : Jvm.MethodName) prog_8_method_11_code (4 : Nat) (Option.some Jvm.ClassFile.FieldType.int)) ∈ wG := wG_of (List.mem_of_getElem? (i := 688) (by decide +kernel)) (by decide +kernel)
theorem q_670 : (Jvm.Cond.methodLink "RecordTimesLaw" (96 : Nat) ({ cls := "RecordTimesModel", name := "offset", desc := "(I)I" } : Jvm.MethodName)) ∈ wG := wG_of (List.mem_of_getElem? (i := 689) (by decide +kernel)) (by decide +kernel)
theorem q_671 : (Jvm.Cond.instanceMethod ({ cls := "RecordTimesModel", name := "offset", desc := "(I)I" } : Jvm.MethodName)) ∈ wG := wG_of (List.mem_of_getElem? (i := 690) (by decide +kernel)) (by decide +kernel)
theorem q_672 : (Jvm.Cond.selects "RecordTimesModel" ({ cls := "RecordTimesModel", name := "offset", desc := "(I)I" } : Jvm.MethodName) ({ cls := "RecordTimesModel", name := "offset", desc := "(I)I" } : Jvm.MethodName)) ∈ wG := wG_of (List.mem_of_getElem? (i := 691) (by decide +kernel)) (by decide +kernel)
theorem q_673 : (Jvm.Cond.code ({ cls := "RecordTimesModel", name := "offset", desc := "(I)I" } : Jvm.MethodName) prog_8_method_12_code (2 : Nat) (Option.some Jvm.ClassFile.FieldType.int)) ∈ wG := wG_of (List.mem_of_getElem? (i := 692) (by decide +kernel)) (by decide +kernel)
theorem q_674 : (Jvm.Cond.methodLink "RecordTimesModel" (87 : Nat) ({ cls := "RecordTimesModel", name := "offsetOf", desc := "(I)I" } : Jvm.MethodName)) ∈ wG := wG_of (List.mem_of_getElem? (i := 693) (by decide +kernel)) (by decide +kernel)
theorem q_676 : (Jvm.Cond.instanceMethod ({ cls := "RecordTimesModel", name := "offsetOf", desc := "(I)I" } : Jvm.MethodName)) ∈ wG := wG_of (List.mem_of_getElem? (i := 695) (by decide +kernel)) (by decide +kernel)
theorem q_677 : (Jvm.Cond.code ({ cls := "RecordTimesModel", name := "offsetOf", desc := "(I)I" } : Jvm.MethodName) prog_8_method_10_code (3 : Nat) (Option.some Jvm.ClassFile.FieldType.int)) ∈ wG := wG_of (List.mem_of_getElem? (i := 696) (by decide +kernel)) (by decide +kernel)
theorem q_678 : (Jvm.Cond.methodLink "RecordTimesModel" (84 : Nat) ({ cls := "RecordTimesModel", name := "firstMark", desc := "(I)I" } : Jvm.MethodName)) ∈ wG := wG_of (List.mem_of_getElem? (i := 697) (by decide +kernel)) (by decide +kernel)
theorem q_680 : (Jvm.Cond.instanceMethod ({ cls := "RecordTimesModel", name := "firstMark", desc := "(I)I" } : Jvm.MethodName)) ∈ wG := wG_of (List.mem_of_getElem? (i := 699) (by decide +kernel)) (by decide +kernel)
theorem q_681 : (Jvm.Cond.code ({ cls := "RecordTimesModel", name := "firstMark", desc := "(I)I" } : Jvm.MethodName) prog_8_method_9_code (3 : Nat) (Option.some Jvm.ClassFile.FieldType.int)) ∈ wG := wG_of (List.mem_of_getElem? (i := 700) (by decide +kernel)) (by decide +kernel)
theorem q_682 : (Jvm.Cond.methodLink "RecordTimesLaw" (99 : Nat) ({ cls := "RecordTimesModel", name := "contradiction", desc := "(I)I" } : Jvm.MethodName)) ∈ wG := wG_of (List.mem_of_getElem? (i := 701) (by decide +kernel)) (by decide +kernel)
theorem q_683 : (Jvm.Cond.instanceMethod ({ cls := "RecordTimesModel", name := "contradiction", desc := "(I)I" } : Jvm.MethodName)) ∈ wG := wG_of (List.mem_of_getElem? (i := 702) (by decide +kernel)) (by decide +kernel)
theorem q_684 : (Jvm.Cond.selects "RecordTimesModel" ({ cls := "RecordTimesModel", name := "contradiction", desc := "(I)I" } : Jvm.MethodName) ({ cls := "RecordTimesModel", name := "contradiction", desc := "(I)I" } : Jvm.MethodName)) ∈ wG := wG_of (List.mem_of_getElem? (i := 703) (by decide +kernel)) (by decide +kernel)
theorem q_685 : (Jvm.Cond.code ({ cls := "RecordTimesModel", name := "contradiction", desc := "(I)I" } : Jvm.MethodName) prog_8_method_13_code (5 : Nat) (Option.some Jvm.ClassFile.FieldType.int)) ∈ wG := wG_of (List.mem_of_getElem? (i := 704) (by decide +kernel)) (by decide +kernel)
theorem q_686 : (Jvm.Cond.methodLink "RecordTimesLaw" (103 : Nat) ({ cls := "RecordTimesModel", name := "find", desc := "(IIIII)I" } : Jvm.MethodName)) ∈ wG := wG_of (List.mem_of_getElem? (i := 705) (by decide +kernel)) (by decide +kernel)
theorem q_687 : (Jvm.Cond.instanceMethod ({ cls := "RecordTimesModel", name := "find", desc := "(IIIII)I" } : Jvm.MethodName)) ∈ wG := wG_of (List.mem_of_getElem? (i := 706) (by decide +kernel)) (by decide +kernel)
theorem q_688 : (Jvm.Cond.selects "RecordTimesModel" ({ cls := "RecordTimesModel", name := "find", desc := "(IIIII)I" } : Jvm.MethodName) ({ cls := "RecordTimesModel", name := "find", desc := "(IIIII)I" } : Jvm.MethodName)) ∈ wG := wG_of (List.mem_of_getElem? (i := 707) (by decide +kernel)) (by decide +kernel)
theorem q_689 : (Jvm.Cond.code ({ cls := "RecordTimesModel", name := "find", desc := "(IIIII)I" } : Jvm.MethodName) prog_8_method_19_code (6 : Nat) (Option.some Jvm.ClassFile.FieldType.int)) ∈ wG := wG_of (List.mem_of_getElem? (i := 708) (by decide +kernel)) (by decide +kernel)
theorem q_690 : (Jvm.Cond.methodLink "RecordTimesModel" (105 : Nat) ({ cls := "RecordTimesModel", name := "found", desc := "(IIIII)I" } : Jvm.MethodName)) ∈ wG := wG_of (List.mem_of_getElem? (i := 709) (by decide +kernel)) (by decide +kernel)
theorem q_692 : (Jvm.Cond.instanceMethod ({ cls := "RecordTimesModel", name := "found", desc := "(IIIII)I" } : Jvm.MethodName)) ∈ wG := wG_of (List.mem_of_getElem? (i := 711) (by decide +kernel)) (by decide +kernel)
theorem q_693 : (Jvm.Cond.code ({ cls := "RecordTimesModel", name := "found", desc := "(IIIII)I" } : Jvm.MethodName) prog_8_method_18_code (9 : Nat) (Option.some Jvm.ClassFile.FieldType.int)) ∈ wG := wG_of (List.mem_of_getElem? (i := 712) (by decide +kernel)) (by decide +kernel)
theorem q_694 : (Jvm.Cond.methodLink "RecordTimesModel" (97 : Nat) ({ cls := "RecordTimesModel", name := "fits", desc := "(IIIII)Z" } : Jvm.MethodName)) ∈ wG := wG_of (List.mem_of_getElem? (i := 713) (by decide +kernel)) (by decide +kernel)
theorem q_696 : (Jvm.Cond.instanceMethod ({ cls := "RecordTimesModel", name := "fits", desc := "(IIIII)Z" } : Jvm.MethodName)) ∈ wG := wG_of (List.mem_of_getElem? (i := 715) (by decide +kernel)) (by decide +kernel)
theorem q_697 : (Jvm.Cond.code ({ cls := "RecordTimesModel", name := "fits", desc := "(IIIII)Z" } : Jvm.MethodName) prog_8_method_17_code (6 : Nat) (Option.some Jvm.ClassFile.FieldType.boolean)) ∈ wG := wG_of (List.mem_of_getElem? (i := 716) (by decide +kernel)) (by decide +kernel)
theorem q_698 : (Jvm.Cond.methodLink "RecordTimesModel" (93 : Nat) ({ cls := "RecordTimesModel", name := "within", desc := "(III)I" } : Jvm.MethodName)) ∈ wG := wG_of (List.mem_of_getElem? (i := 717) (by decide +kernel)) (by decide +kernel)
theorem q_700 : (Jvm.Cond.instanceMethod ({ cls := "RecordTimesModel", name := "within", desc := "(III)I" } : Jvm.MethodName)) ∈ wG := wG_of (List.mem_of_getElem? (i := 719) (by decide +kernel)) (by decide +kernel)
theorem q_701 : (Jvm.Cond.code ({ cls := "RecordTimesModel", name := "within", desc := "(III)I" } : Jvm.MethodName) prog_8_method_16_code (6 : Nat) (Option.some Jvm.ClassFile.FieldType.int)) ∈ wG := wG_of (List.mem_of_getElem? (i := 720) (by decide +kernel)) (by decide +kernel)
theorem q_702 : (Jvm.Cond.methodLink "RecordTimesModel" (90 : Nat) ({ cls := "RecordTimesModel", name := "begin", desc := "(I)I" } : Jvm.MethodName)) ∈ wG := wG_of (List.mem_of_getElem? (i := 721) (by decide +kernel)) (by decide +kernel)
theorem q_704 : (Jvm.Cond.instanceMethod ({ cls := "RecordTimesModel", name := "begin", desc := "(I)I" } : Jvm.MethodName)) ∈ wG := wG_of (List.mem_of_getElem? (i := 723) (by decide +kernel)) (by decide +kernel)
theorem q_705 : (Jvm.Cond.code ({ cls := "RecordTimesModel", name := "begin", desc := "(I)I" } : Jvm.MethodName) prog_8_method_14_code (2 : Nat) (Option.some Jvm.ClassFile.FieldType.int)) ∈ wG := wG_of (List.mem_of_getElem? (i := 724) (by decide +kernel)) (by decide +kernel)
theorem q_706 : (Jvm.Cond.methodLink "RecordTimesModel" (101 : Nat) ({ cls := "RecordTimesModel", name := "goesAhead", desc := "(II)Z" } : Jvm.MethodName)) ∈ wG := wG_of (List.mem_of_getElem? (i := 725) (by decide +kernel)) (by decide +kernel)
theorem q_708 : (Jvm.Cond.instanceMethod ({ cls := "RecordTimesModel", name := "goesAhead", desc := "(II)Z" } : Jvm.MethodName)) ∈ wG := wG_of (List.mem_of_getElem? (i := 727) (by decide +kernel)) (by decide +kernel)
theorem q_709 : (Jvm.Cond.code ({ cls := "RecordTimesModel", name := "goesAhead", desc := "(II)Z" } : Jvm.MethodName) prog_8_method_15_code (5 : Nat) (Option.some Jvm.ClassFile.FieldType.boolean)) ∈ wG := wG_of (List.mem_of_getElem? (i := 728) (by decide +kernel)) (by decide +kernel)
theorem q_710 : (Jvm.Cond.methodLink "RecordTimesLaw" (106 : Nat) ({ cls := "RecordTimesModel", name := "time", desc := "(I)I" } : Jvm.MethodName)) ∈ wG := wG_of (List.mem_of_getElem? (i := 729) (by decide +kernel)) (by decide +kernel)
theorem q_711 : (Jvm.Cond.instanceMethod ({ cls := "RecordTimesModel", name := "time", desc := "(I)I" } : Jvm.MethodName)) ∈ wG := wG_of (List.mem_of_getElem? (i := 730) (by decide +kernel)) (by decide +kernel)
theorem q_712 : (Jvm.Cond.selects "RecordTimesModel" ({ cls := "RecordTimesModel", name := "time", desc := "(I)I" } : Jvm.MethodName) ({ cls := "RecordTimesModel", name := "time", desc := "(I)I" } : Jvm.MethodName)) ∈ wG := wG_of (List.mem_of_getElem? (i := 731) (by decide +kernel)) (by decide +kernel)
theorem q_713 : (Jvm.Cond.code ({ cls := "RecordTimesModel", name := "time", desc := "(I)I" } : Jvm.MethodName) prog_8_method_21_code (2 : Nat) (Option.some Jvm.ClassFile.FieldType.int)) ∈ wG := wG_of (List.mem_of_getElem? (i := 732) (by decide +kernel)) (by decide +kernel)
theorem q_714 : (Jvm.Cond.methodLink "RecordTimesModel" (109 : Nat) ({ cls := "RecordTimesModel", name := "isSlot", desc := "(I)Z" } : Jvm.MethodName)) ∈ wG := wG_of (List.mem_of_getElem? (i := 733) (by decide +kernel)) (by decide +kernel)
theorem q_716 : (Jvm.Cond.instanceMethod ({ cls := "RecordTimesModel", name := "isSlot", desc := "(I)Z" } : Jvm.MethodName)) ∈ wG := wG_of (List.mem_of_getElem? (i := 735) (by decide +kernel)) (by decide +kernel)
theorem q_717 : (Jvm.Cond.code ({ cls := "RecordTimesModel", name := "isSlot", desc := "(I)Z" } : Jvm.MethodName) prog_8_method_5_code (2 : Nat) (Option.some Jvm.ClassFile.FieldType.boolean)) ∈ wG := wG_of (List.mem_of_getElem? (i := 736) (by decide +kernel)) (by decide +kernel)
theorem q_718 : (Jvm.Cond.methodLink "RecordTimesModel" (113 : Nat) ({ cls := "RecordTimesModel", name := "isGone", desc := "(I)Z" } : Jvm.MethodName)) ∈ wG := wG_of (List.mem_of_getElem? (i := 737) (by decide +kernel)) (by decide +kernel)
theorem q_720 : (Jvm.Cond.instanceMethod ({ cls := "RecordTimesModel", name := "isGone", desc := "(I)Z" } : Jvm.MethodName)) ∈ wG := wG_of (List.mem_of_getElem? (i := 739) (by decide +kernel)) (by decide +kernel)
theorem q_721 : (Jvm.Cond.code ({ cls := "RecordTimesModel", name := "isGone", desc := "(I)Z" } : Jvm.MethodName) prog_8_method_20_code (2 : Nat) (Option.some Jvm.ClassFile.FieldType.boolean)) ∈ wG := wG_of (List.mem_of_getElem? (i := 740) (by decide +kernel)) (by decide +kernel)
theorem q_722 : (Jvm.Cond.methodLink "RecordTimesLaw" (109 : Nat) ({ cls := "RecordTimesModel", name := "sum", desc := "(I)I" } : Jvm.MethodName)) ∈ wG := wG_of (List.mem_of_getElem? (i := 741) (by decide +kernel)) (by decide +kernel)
theorem q_723 : (Jvm.Cond.instanceMethod ({ cls := "RecordTimesModel", name := "sum", desc := "(I)I" } : Jvm.MethodName)) ∈ wG := wG_of (List.mem_of_getElem? (i := 742) (by decide +kernel)) (by decide +kernel)
theorem q_724 : (Jvm.Cond.selects "RecordTimesModel" ({ cls := "RecordTimesModel", name := "sum", desc := "(I)I" } : Jvm.MethodName) ({ cls := "RecordTimesModel", name := "sum", desc := "(I)I" } : Jvm.MethodName)) ∈ wG := wG_of (List.mem_of_getElem? (i := 743) (by decide +kernel)) (by decide +kernel)
theorem q_725 : (Jvm.Cond.code ({ cls := "RecordTimesModel", name := "sum", desc := "(I)I" } : Jvm.MethodName) prog_8_method_22_code (2 : Nat) (Option.some Jvm.ClassFile.FieldType.int)) ∈ wG := wG_of (List.mem_of_getElem? (i := 744) (by decide +kernel)) (by decide +kernel)
theorem q_726 : (Jvm.Cond.methodLink "RecordTimesLaw" (112 : Nat) ({ cls := "RecordTimesModel", name := "part", desc := "(III)I" } : Jvm.MethodName)) ∈ wG := wG_of (List.mem_of_getElem? (i := 745) (by decide +kernel)) (by decide +kernel)
theorem q_727 : (Jvm.Cond.instanceMethod ({ cls := "RecordTimesModel", name := "part", desc := "(III)I" } : Jvm.MethodName)) ∈ wG := wG_of (List.mem_of_getElem? (i := 746) (by decide +kernel)) (by decide +kernel)
theorem q_728 : (Jvm.Cond.selects "RecordTimesModel" ({ cls := "RecordTimesModel", name := "part", desc := "(III)I" } : Jvm.MethodName) ({ cls := "RecordTimesModel", name := "part", desc := "(III)I" } : Jvm.MethodName)) ∈ wG := wG_of (List.mem_of_getElem? (i := 747) (by decide +kernel)) (by decide +kernel)
theorem q_729 : (Jvm.Cond.code ({ cls := "RecordTimesModel", name := "part", desc := "(III)I" } : Jvm.MethodName) prog_8_method_24_code (4 : Nat) (Option.some Jvm.ClassFile.FieldType.int)) ∈ wG := wG_of (List.mem_of_getElem? (i := 748) (by decide +kernel)) (by decide +kernel)
theorem q_730 : (Jvm.Cond.methodLink "RecordTimesModel" (116 : Nat) ({ cls := "RecordTimesModel", name := "sumWithin", desc := "(IIII)I" } : Jvm.MethodName)) ∈ wG := wG_of (List.mem_of_getElem? (i := 749) (by decide +kernel)) (by decide +kernel)
theorem q_732 : (Jvm.Cond.instanceMethod ({ cls := "RecordTimesModel", name := "sumWithin", desc := "(IIII)I" } : Jvm.MethodName)) ∈ wG := wG_of (List.mem_of_getElem? (i := 751) (by decide +kernel)) (by decide +kernel)
theorem q_733 : (Jvm.Cond.code ({ cls := "RecordTimesModel", name := "sumWithin", desc := "(IIII)I" } : Jvm.MethodName) prog_8_method_23_code (7 : Nat) (Option.some Jvm.ClassFile.FieldType.int)) ∈ wG := wG_of (List.mem_of_getElem? (i := 752) (by decide +kernel)) (by decide +kernel)
theorem q_734 : (Jvm.Cond.methodLink "RecordTimesLaw" (116 : Nat) ({ cls := "RecordTimesModel", name := "size", desc := "(II)I" } : Jvm.MethodName)) ∈ wG := wG_of (List.mem_of_getElem? (i := 753) (by decide +kernel)) (by decide +kernel)
theorem q_735 : (Jvm.Cond.instanceMethod ({ cls := "RecordTimesModel", name := "size", desc := "(II)I" } : Jvm.MethodName)) ∈ wG := wG_of (List.mem_of_getElem? (i := 754) (by decide +kernel)) (by decide +kernel)
theorem q_736 : (Jvm.Cond.selects "RecordTimesModel" ({ cls := "RecordTimesModel", name := "size", desc := "(II)I" } : Jvm.MethodName) ({ cls := "RecordTimesModel", name := "size", desc := "(II)I" } : Jvm.MethodName)) ∈ wG := wG_of (List.mem_of_getElem? (i := 755) (by decide +kernel)) (by decide +kernel)
theorem q_737 : (Jvm.Cond.code ({ cls := "RecordTimesModel", name := "size", desc := "(II)I" } : Jvm.MethodName) prog_8_method_25_code (5 : Nat) (Option.some Jvm.ClassFile.FieldType.int)) ∈ wG := wG_of (List.mem_of_getElem? (i := 756) (by decide +kernel)) (by decide +kernel)
theorem q_738 : (Jvm.Cond.methodLink "RecordTimesLaw" (120 : Nat) ({ cls := "RecordTimesModel", name := "export", desc := "(II)I" } : Jvm.MethodName)) ∈ wG := wG_of (List.mem_of_getElem? (i := 757) (by decide +kernel)) (by decide +kernel)
theorem q_739 : (Jvm.Cond.instanceMethod ({ cls := "RecordTimesModel", name := "export", desc := "(II)I" } : Jvm.MethodName)) ∈ wG := wG_of (List.mem_of_getElem? (i := 758) (by decide +kernel)) (by decide +kernel)
theorem q_740 : (Jvm.Cond.selects "RecordTimesModel" ({ cls := "RecordTimesModel", name := "export", desc := "(II)I" } : Jvm.MethodName) ({ cls := "RecordTimesModel", name := "export", desc := "(II)I" } : Jvm.MethodName)) ∈ wG := wG_of (List.mem_of_getElem? (i := 759) (by decide +kernel)) (by decide +kernel)
theorem q_741 : (Jvm.Cond.code ({ cls := "RecordTimesModel", name := "export", desc := "(II)I" } : Jvm.MethodName) prog_8_method_26_code (6 : Nat) (Option.some Jvm.ClassFile.FieldType.int)) ∈ wG := wG_of (List.mem_of_getElem? (i := 760) (by decide +kernel)) (by decide +kernel)
theorem q_742 : (Jvm.Cond.methodLink "RecordTimesLaw" (124 : Nat) ({ cls := "RecordTimesModel", name := "hold", desc := "(IZ)V" } : Jvm.MethodName)) ∈ wG := wG_of (List.mem_of_getElem? (i := 761) (by decide +kernel)) (by decide +kernel)
theorem q_743 : (Jvm.Cond.instanceMethod ({ cls := "RecordTimesModel", name := "hold", desc := "(IZ)V" } : Jvm.MethodName)) ∈ wG := wG_of (List.mem_of_getElem? (i := 762) (by decide +kernel)) (by decide +kernel)
theorem q_744 : (Jvm.Cond.selects "RecordTimesModel" ({ cls := "RecordTimesModel", name := "hold", desc := "(IZ)V" } : Jvm.MethodName) ({ cls := "RecordTimesModel", name := "hold", desc := "(IZ)V" } : Jvm.MethodName)) ∈ wG := wG_of (List.mem_of_getElem? (i := 763) (by decide +kernel)) (by decide +kernel)
theorem q_745 : (Jvm.Cond.code ({ cls := "RecordTimesModel", name := "hold", desc := "(IZ)V" } : Jvm.MethodName) prog_8_method_27_code (4 : Nat) (Option.none : Option Jvm.ClassFile.FieldType)) ∈ wG := wG_of (List.mem_of_getElem? (i := 764) (by decide +kernel)) (by decide +kernel)
theorem q_746 : (Jvm.Cond.methodLink "RecordTimesLaw" (127 : Nat) ({ cls := "RecordTimesModel", name := "drop", desc := "(I)I" } : Jvm.MethodName)) ∈ wG := wG_of (List.mem_of_getElem? (i := 765) (by decide +kernel)) (by decide +kernel)
theorem q_747 : (Jvm.Cond.instanceMethod ({ cls := "RecordTimesModel", name := "drop", desc := "(I)I" } : Jvm.MethodName)) ∈ wG := wG_of (List.mem_of_getElem? (i := 766) (by decide +kernel)) (by decide +kernel)
theorem q_748 : (Jvm.Cond.selects "RecordTimesModel" ({ cls := "RecordTimesModel", name := "drop", desc := "(I)I" } : Jvm.MethodName) ({ cls := "RecordTimesModel", name := "drop", desc := "(I)I" } : Jvm.MethodName)) ∈ wG := wG_of (List.mem_of_getElem? (i := 767) (by decide +kernel)) (by decide +kernel)
theorem q_749 : (Jvm.Cond.code ({ cls := "RecordTimesModel", name := "drop", desc := "(I)I" } : Jvm.MethodName) prog_8_method_28_code (2 : Nat) (Option.some Jvm.ClassFile.FieldType.int)) ∈ wG := wG_of (List.mem_of_getElem? (i := 768) (by decide +kernel)) (by decide +kernel)
theorem q_750 : (Jvm.Cond.methodLink "RecordTimesLaw" (131 : Nat) ({ cls := "RecordTimesModel", name := "certificate", desc := "(II)I" } : Jvm.MethodName)) ∈ wG := wG_of (List.mem_of_getElem? (i := 769) (by decide +kernel)) (by decide +kernel)
theorem q_751 : (Jvm.Cond.instanceMethod ({ cls := "RecordTimesModel", name := "certificate", desc := "(II)I" } : Jvm.MethodName)) ∈ wG := wG_of (List.mem_of_getElem? (i := 770) (by decide +kernel)) (by decide +kernel)
theorem q_752 : (Jvm.Cond.selects "RecordTimesModel" ({ cls := "RecordTimesModel", name := "certificate", desc := "(II)I" } : Jvm.MethodName) ({ cls := "RecordTimesModel", name := "certificate", desc := "(II)I" } : Jvm.MethodName)) ∈ wG := wG_of (List.mem_of_getElem? (i := 771) (by decide +kernel)) (by decide +kernel)
theorem q_753 : (Jvm.Cond.code ({ cls := "RecordTimesModel", name := "certificate", desc := "(II)I" } : Jvm.MethodName) prog_8_method_29_code (3 : Nat) (Option.some Jvm.ClassFile.FieldType.int)) ∈ wG := wG_of (List.mem_of_getElem? (i := 772) (by decide +kernel)) (by decide +kernel)
theorem q_754 : (Jvm.Cond.methodLink "RecordTimesLaw" (135 : Nat) ({ cls := "RecordTimesModel", name := "right", desc := "(IIZ)V" } : Jvm.MethodName)) ∈ wG := wG_of (List.mem_of_getElem? (i := 773) (by decide +kernel)) (by decide +kernel)
theorem q_755 : (Jvm.Cond.instanceMethod ({ cls := "RecordTimesModel", name := "right", desc := "(IIZ)V" } : Jvm.MethodName)) ∈ wG := wG_of (List.mem_of_getElem? (i := 774) (by decide +kernel)) (by decide +kernel)
theorem q_756 : (Jvm.Cond.selects "RecordTimesModel" ({ cls := "RecordTimesModel", name := "right", desc := "(IIZ)V" } : Jvm.MethodName) ({ cls := "RecordTimesModel", name := "right", desc := "(IIZ)V" } : Jvm.MethodName)) ∈ wG := wG_of (List.mem_of_getElem? (i := 775) (by decide +kernel)) (by decide +kernel)
theorem q_757 : (Jvm.Cond.code ({ cls := "RecordTimesModel", name := "right", desc := "(IIZ)V" } : Jvm.MethodName) prog_8_method_30_code (4 : Nat) (Option.none : Option Jvm.ClassFile.FieldType)) ∈ wG := wG_of (List.mem_of_getElem? (i := 776) (by decide +kernel)) (by decide +kernel)
theorem q_758 : (Jvm.Cond.methodLink "RecordTimesLaw" (138 : Nat) ({ cls := "RecordTimesModel", name := "listen", desc := "(II)I" } : Jvm.MethodName)) ∈ wG := wG_of (List.mem_of_getElem? (i := 777) (by decide +kernel)) (by decide +kernel)
theorem q_759 : (Jvm.Cond.instanceMethod ({ cls := "RecordTimesModel", name := "listen", desc := "(II)I" } : Jvm.MethodName)) ∈ wG := wG_of (List.mem_of_getElem? (i := 778) (by decide +kernel)) (by decide +kernel)
theorem q_760 : (Jvm.Cond.selects "RecordTimesModel" ({ cls := "RecordTimesModel", name := "listen", desc := "(II)I" } : Jvm.MethodName) ({ cls := "RecordTimesModel", name := "listen", desc := "(II)I" } : Jvm.MethodName)) ∈ wG := wG_of (List.mem_of_getElem? (i := 779) (by decide +kernel)) (by decide +kernel)
theorem q_761 : (Jvm.Cond.code ({ cls := "RecordTimesModel", name := "listen", desc := "(II)I" } : Jvm.MethodName) prog_8_method_31_code (5 : Nat) (Option.some Jvm.ClassFile.FieldType.int)) ∈ wG := wG_of (List.mem_of_getElem? (i := 780) (by decide +kernel)) (by decide +kernel)
theorem q_762 : (Jvm.Cond.methodLink "RecordTimesLaw" (141 : Nat) ({ cls := "RecordTimesModel", name := "row", desc := "(II)I" } : Jvm.MethodName)) ∈ wG := wG_of (List.mem_of_getElem? (i := 781) (by decide +kernel)) (by decide +kernel)
theorem q_763 : (Jvm.Cond.instanceMethod ({ cls := "RecordTimesModel", name := "row", desc := "(II)I" } : Jvm.MethodName)) ∈ wG := wG_of (List.mem_of_getElem? (i := 782) (by decide +kernel)) (by decide +kernel)
theorem q_764 : (Jvm.Cond.selects "RecordTimesModel" ({ cls := "RecordTimesModel", name := "row", desc := "(II)I" } : Jvm.MethodName) ({ cls := "RecordTimesModel", name := "row", desc := "(II)I" } : Jvm.MethodName)) ∈ wG := wG_of (List.mem_of_getElem? (i := 783) (by decide +kernel)) (by decide +kernel)
theorem q_765 : (Jvm.Cond.code ({ cls := "RecordTimesModel", name := "row", desc := "(II)I" } : Jvm.MethodName) prog_8_method_32_code (4 : Nat) (Option.some Jvm.ClassFile.FieldType.int)) ∈ wG := wG_of (List.mem_of_getElem? (i := 784) (by decide +kernel)) (by decide +kernel)
theorem q_766 : (Jvm.Cond.methodLink "RecordTimesLaw" (145 : Nat) ({ cls := "RecordTimesModel", name := "poke", desc := "(III)V" } : Jvm.MethodName)) ∈ wG := wG_of (List.mem_of_getElem? (i := 785) (by decide +kernel)) (by decide +kernel)
theorem q_767 : (Jvm.Cond.instanceMethod ({ cls := "RecordTimesModel", name := "poke", desc := "(III)V" } : Jvm.MethodName)) ∈ wG := wG_of (List.mem_of_getElem? (i := 786) (by decide +kernel)) (by decide +kernel)
theorem q_768 : (Jvm.Cond.selects "RecordTimesModel" ({ cls := "RecordTimesModel", name := "poke", desc := "(III)V" } : Jvm.MethodName) ({ cls := "RecordTimesModel", name := "poke", desc := "(III)V" } : Jvm.MethodName)) ∈ wG := wG_of (List.mem_of_getElem? (i := 787) (by decide +kernel)) (by decide +kernel)
theorem q_769 : (Jvm.Cond.code ({ cls := "RecordTimesModel", name := "poke", desc := "(III)V" } : Jvm.MethodName) prog_8_method_33_code (5 : Nat) (Option.none : Option Jvm.ClassFile.FieldType)) ∈ wG := wG_of (List.mem_of_getElem? (i := 788) (by decide +kernel)) (by decide +kernel)
theorem q_770 : (Jvm.Cond.methodLink "RecordTimesLaw" (149 : Nat) ({ cls := "RecordTimesModel", name := "verify", desc := "()I" } : Jvm.MethodName)) ∈ wG := wG_of (List.mem_of_getElem? (i := 789) (by decide +kernel)) (by decide +kernel)
theorem q_771 : (Jvm.Cond.instanceMethod ({ cls := "RecordTimesModel", name := "verify", desc := "()I" } : Jvm.MethodName)) ∈ wG := wG_of (List.mem_of_getElem? (i := 790) (by decide +kernel)) (by decide +kernel)
theorem q_772 : (Jvm.Cond.selects "RecordTimesModel" ({ cls := "RecordTimesModel", name := "verify", desc := "()I" } : Jvm.MethodName) ({ cls := "RecordTimesModel", name := "verify", desc := "()I" } : Jvm.MethodName)) ∈ wG := wG_of (List.mem_of_getElem? (i := 791) (by decide +kernel)) (by decide +kernel)
theorem q_773 : (Jvm.Cond.code ({ cls := "RecordTimesModel", name := "verify", desc := "()I" } : Jvm.MethodName) prog_8_method_34_code (2 : Nat) (Option.some Jvm.ClassFile.FieldType.int)) ∈ wG := wG_of (List.mem_of_getElem? (i := 792) (by decide +kernel)) (by decide +kernel)
theorem q_774 : (Jvm.Cond.methodLink "RecordTimesLaw" (152 : Nat) ({ cls := "RecordTimesModel", name := "count", desc := "(I)I" } : Jvm.MethodName)) ∈ wG := wG_of (List.mem_of_getElem? (i := 793) (by decide +kernel)) (by decide +kernel)
theorem q_775 : (Jvm.Cond.instanceMethod ({ cls := "RecordTimesModel", name := "count", desc := "(I)I" } : Jvm.MethodName)) ∈ wG := wG_of (List.mem_of_getElem? (i := 794) (by decide +kernel)) (by decide +kernel)
theorem q_776 : (Jvm.Cond.selects "RecordTimesModel" ({ cls := "RecordTimesModel", name := "count", desc := "(I)I" } : Jvm.MethodName) ({ cls := "RecordTimesModel", name := "count", desc := "(I)I" } : Jvm.MethodName)) ∈ wG := wG_of (List.mem_of_getElem? (i := 795) (by decide +kernel)) (by decide +kernel)
theorem q_777 : (Jvm.Cond.code ({ cls := "RecordTimesModel", name := "count", desc := "(I)I" } : Jvm.MethodName) prog_8_method_35_code (4 : Nat) (Option.some Jvm.ClassFile.FieldType.int)) ∈ wG := wG_of (List.mem_of_getElem? (i := 796) (by decide +kernel)) (by decide +kernel)
theorem q_778 : (Jvm.Cond.constantLong "RecordTimesLaw" (77 : Nat) (4294967295 : Int64)) ∈ wG := wG_of (List.mem_of_getElem? (i := 797) (by decide +kernel)) (by decide +kernel)
theorem qm_max : Cond.code Lib.Math.max.name Lib.Math.max.code 2 (some .int) ∈ wG := wG_of (List.mem_of_getElem? (i := 223) (by decide +kernel)) (by decide +kernel)
theorem qm_min : Cond.code Lib.Math.min.name Lib.Math.min.code 2 (some .int) ∈ wG := wG_of (List.mem_of_getElem? (i := 220) (by decide +kernel)) (by decide +kernel)
