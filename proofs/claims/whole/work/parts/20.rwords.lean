theorem kb_m2 : (Int8.ofInt (-2)).toInt32 = (-2 : Int32) := by decide
theorem kb_14 : (Int8.ofInt 14).toInt32 = (14 : Int32) := by decide
theorem kb_33 : (Int8.ofInt 33).toInt32 = (33 : Int32) := by decide
theorem kb_51 : (Int8.ofInt 51).toInt32 = (51 : Int32) := by decide
theorem kb_79 : (Int8.ofInt 79).toInt32 = (79 : Int32) := by decide
theorem kb_83 : (Int8.ofInt 83).toInt32 = (83 : Int32) := by decide
theorem kb_84 : (Int8.ofInt 84).toInt32 = (84 : Int32) := by decide
theorem kb_87 : (Int8.ofInt 87).toInt32 = (87 : Int32) := by decide
theorem tf_MO_7 : Cond.fieldLink "TwoSlotsModel" 7 "TwoSlotsModel" "flash" "[I" ∈ TB := mem_tb (i := 562) (by decide +kernel) rfl
theorem tf_MO_13 : Cond.fieldLink "TwoSlotsModel" 13 "TwoSlotsModel" "cut" "I" ∈ TB := mem_tb (i := 564) (by decide +kernel) rfl
theorem tf_MO_17 : Cond.fieldLink "TwoSlotsModel" 17 "TwoSlotsModel" "runs" "I" ∈ TB := mem_tb (i := 566) (by decide +kernel) rfl
theorem tf_MO_20 : Cond.fieldLink "TwoSlotsModel" 20 "TwoSlotsModel" "tape" "[I" ∈ TB := mem_tb (i := 568) (by decide +kernel) rfl
theorem tf_MO_23 : Cond.fieldLink "TwoSlotsModel" 23 "TwoSlotsModel" "offered" "[I" ∈ TB := mem_tb (i := 570) (by decide +kernel) rfl
theorem tf_MO_26 : Cond.fieldLink "TwoSlotsModel" 26 "TwoSlotsModel" "target" "I" ∈ TB := mem_tb (i := 571) (by decide +kernel) rfl
theorem tf_MO_29 : Cond.fieldLink "TwoSlotsModel" 29 "TwoSlotsModel" "counts" "[I" ∈ TB := mem_tb (i := 573) (by decide +kernel) rfl
theorem tf_MO_32 : Cond.fieldLink "TwoSlotsModel" 32 "TwoSlotsModel" "made" "[I" ∈ TB := mem_tb (i := 578) (by decide +kernel) rfl
theorem tf_MO_35 : Cond.fieldLink "TwoSlotsModel" 35 "TwoSlotsModel" "line" "[I" ∈ TB := mem_tb (i := 579) (by decide +kernel) rfl
theorem tf_MO_38 : Cond.fieldLink "TwoSlotsModel" 38 "TwoSlotsModel" "secret" "J" ∈ TB := mem_tb (i := 561) (by decide +kernel) rfl
theorem tf_MO_100 : Cond.fieldLink "TwoSlotsModel" 100 "TwoSlotsModel" "down" "Z" ∈ TB := mem_tb (i := 563) (by decide +kernel) rfl
theorem tf_MO_104 : Cond.fieldLink "TwoSlotsModel" 104 "TwoSlotsModel" "ticksLeft" "I" ∈ TB := mem_tb (i := 567) (by decide +kernel) rfl
theorem tf_MO_107 : Cond.fieldLink "TwoSlotsModel" 107 "TwoSlotsModel" "taped" "I" ∈ TB := mem_tb (i := 569) (by decide +kernel) rfl
theorem tf_MO_110 : Cond.fieldLink "TwoSlotsModel" 110 "TwoSlotsModel" "tear" "I" ∈ TB := mem_tb (i := 565) (by decide +kernel) rfl
theorem tf_MO_131 : Cond.fieldLink "TwoSlotsModel" 131 "TwoSlotsModel" "makerVersion" "I" ∈ TB := mem_tb (i := 574) (by decide +kernel) rfl
theorem tf_MO_134 : Cond.fieldLink "TwoSlotsModel" 134 "TwoSlotsModel" "makerSize" "I" ∈ TB := mem_tb (i := 575) (by decide +kernel) rfl
theorem tf_MO_137 : Cond.fieldLink "TwoSlotsModel" 137 "TwoSlotsModel" "makerKey" "I" ∈ TB := mem_tb (i := 576) (by decide +kernel) rfl
theorem tf_MO_140 : Cond.fieldLink "TwoSlotsModel" 140 "TwoSlotsModel" "makerSeed" "I" ∈ TB := mem_tb (i := 577) (by decide +kernel) rfl
theorem tf_MO_159 : Cond.fieldLink "TwoSlotsModel" 159 "TwoSlotsModel" "next" "I" ∈ TB := mem_tb (i := 572) (by decide +kernel) rfl
theorem tcj_MO_42 : Cond.constantLong "TwoSlotsModel" 42 (4294967295 : Int64) ∈ TB := mem_tb (i := 539) (by decide +kernel) rfl
theorem tcj_MO_56 : Cond.constantLong "TwoSlotsModel" 56 (-7046029254386353131 : Int64) ∈ TB := mem_tb (i := 543) (by decide +kernel) rfl
theorem tcj_MO_58 : Cond.constantLong "TwoSlotsModel" 58 (1099511628211 : Int64) ∈ TB := mem_tb (i := 556) (by decide +kernel) rfl
theorem tcj_MO_72 : Cond.constantLong "TwoSlotsModel" 72 (1415008083 : Int64) ∈ TB := mem_tb (i := 662) (by decide +kernel) rfl
theorem tcj_MO_74 : Cond.constantLong "TwoSlotsModel" 74 (30 : Int64) ∈ TB := mem_tb (i := 624) (by decide +kernel) rfl
theorem tcj_MO_116 : Cond.constantLong "TwoSlotsModel" 116 (-2 : Int64) ∈ TB := mem_tb (i := 705) (by decide +kernel) rfl
theorem tcj_MO_129 : Cond.constantLong "TwoSlotsModel" 129 (3 : Int64) ∈ TB := mem_tb (i := 628) (by decide +kernel) rfl
theorem tcj_MO_143 : Cond.constantLong "TwoSlotsModel" 143 (-1 : Int64) ∈ TB := mem_tb (i := 633) (by decide +kernel) rfl
theorem tcj_MO_175 : Cond.constantLong "TwoSlotsModel" 175 (100 : Int64) ∈ TB := mem_tb (i := 734) (by decide +kernel) rfl
theorem tcj_MO_177 : Cond.constantLong "TwoSlotsModel" 177 (1000 : Int64) ∈ TB := mem_tb (i := 743) (by decide +kernel) rfl
theorem tcj_MO_179 : Cond.constantLong "TwoSlotsModel" 179 (63 : Int64) ∈ TB := mem_tb (i := 744) (by decide +kernel) rfl
theorem tcj_MO_185 : Cond.constantLong "TwoSlotsModel" 185 (4 : Int64) ∈ TB := mem_tb (i := 772) (by decide +kernel) rfl
theorem tcj_MO_187 : Cond.constantLong "TwoSlotsModel" 187 (7 : Int64) ∈ TB := mem_tb (i := 777) (by decide +kernel) rfl
theorem tcj_MO_189 : Cond.constantLong "TwoSlotsModel" 189 (6 : Int64) ∈ TB := mem_tb (i := 782) (by decide +kernel) rfl
def y_MO_in : MethodName := ⟨"TwoSlotsModel", "in", "(JJJ)Z"⟩
abbrev b_MO_in : ByteArray := prog_7_method_2_code
theorem tc_MO_in : Cond.code y_MO_in b_MO_in 6 (some .boolean) ∈ TB := mem_tb (i := 627) (by decide +kernel) rfl
def y_MO_digested : MethodName := ⟨"TwoSlotsModel", "digested", "(JI)J"⟩
abbrev b_MO_digested : ByteArray := prog_7_method_3_code
theorem tc_MO_digested : Cond.code y_MO_digested b_MO_digested 5 (some .long) ∈ TB := mem_tb (i := 542) (by decide +kernel) rfl
def y_MO_numberOf : MethodName := ⟨"TwoSlotsModel", "numberOf", "(I)J"⟩
abbrev b_MO_numberOf : ByteArray := prog_7_method_4_code
theorem tc_MO_numberOf : Cond.code y_MO_numberOf b_MO_numberOf 2 (some .long) ∈ TB := mem_tb (i := 555) (by decide +kernel) rfl
def y_MO_number : MethodName := ⟨"TwoSlotsModel", "number", "([IIJI)V"⟩
abbrev b_MO_number : ByteArray := prog_7_method_5_code
theorem tc_MO_number : Cond.code y_MO_number b_MO_number 7 (none) ∈ TB := mem_tb (i := 551) (by decide +kernel) rfl
def y_MO_header : MethodName := ⟨"TwoSlotsModel", "header", "(IIIJ)V"⟩
abbrev b_MO_header : ByteArray := prog_7_method_6_code
theorem tc_MO_header : Cond.code y_MO_header b_MO_header 9 (none) ∈ TB := mem_tb (i := 547) (by decide +kernel) rfl
def y_MO_read : MethodName := ⟨"TwoSlotsModel", "read", "([III)J"⟩
abbrev b_MO_read : ByteArray := prog_7_method_7_code
theorem tc_MO_read : Cond.code y_MO_read b_MO_read 7 (some .long) ∈ TB := mem_tb (i := 657) (by decide +kernel) rfl
def y_MO_newest : MethodName := ⟨"TwoSlotsModel", "newest", "()I"⟩
abbrev b_MO_newest : ByteArray := prog_7_method_14_code
theorem tc_MO_newest : Cond.code y_MO_newest b_MO_newest 4 (some .int) ∈ TB := mem_tb (i := 653) (by decide +kernel) rfl
def y_MO_isRight : MethodName := ⟨"TwoSlotsModel", "isRight", "([II)Z"⟩
abbrev b_MO_isRight : ByteArray := prog_7_method_8_code
theorem tc_MO_isRight : Cond.code y_MO_isRight b_MO_isRight 8 (some .boolean) ∈ TB := mem_tb (i := 661) (by decide +kernel) rfl
def y_MO_headOf : MethodName := ⟨"TwoSlotsModel", "headOf", "(I)I"⟩
abbrev b_MO_headOf : ByteArray := prog_7_method_9_code
theorem tc_MO_headOf : Cond.code y_MO_headOf b_MO_headOf 1 (some .int) ∈ TB := mem_tb (i := 676) (by decide +kernel) rfl
def y_MO_counter : MethodName := ⟨"TwoSlotsModel", "counter", "()J"⟩
abbrev b_MO_counter : ByteArray := prog_7_method_10_code
theorem tc_MO_counter : Cond.code y_MO_counter b_MO_counter 2 (some .long) ∈ TB := mem_tb (i := 666) (by decide +kernel) rfl
def y_MO_bodyOf : MethodName := ⟨"TwoSlotsModel", "bodyOf", "(I[II)J"⟩
abbrev b_MO_bodyOf : ByteArray := prog_7_method_11_code
theorem tc_MO_bodyOf : Cond.code y_MO_bodyOf b_MO_bodyOf 8 (some .long) ∈ TB := mem_tb (i := 704) (by decide +kernel) rfl
def y_MO_isGood : MethodName := ⟨"TwoSlotsModel", "isGood", "(I)Z"⟩
abbrev b_MO_isGood : ByteArray := prog_7_method_12_code
theorem tc_MO_isGood : Cond.code y_MO_isGood b_MO_isGood 3 (some .boolean) ∈ TB := mem_tb (i := 725) (by decide +kernel) rfl
def y_MO_lineIs : MethodName := ⟨"TwoSlotsModel", "lineIs", "(JIIIIJ)V"⟩
abbrev b_MO_lineIs : ByteArray := prog_7_method_13_code
theorem tc_MO_lineIs : Cond.code y_MO_lineIs b_MO_lineIs 9 (none) ∈ TB := mem_tb (i := 560) (by decide +kernel) rfl
def y_MO_goes : MethodName := ⟨"TwoSlotsModel", "goes", "(I)I"⟩
abbrev b_MO_goes : ByteArray := prog_7_method_15_code
theorem tc_MO_goes : Cond.code y_MO_goes b_MO_goes 3 (some .int) ∈ TB := mem_tb (i := 684) (by decide +kernel) rfl
def y_MO_erased : MethodName := ⟨"TwoSlotsModel", "erased", "(I)Z"⟩
abbrev b_MO_erased : ByteArray := prog_7_method_16_code
theorem tc_MO_erased : Cond.code y_MO_erased b_MO_erased 4 (some .boolean) ∈ TB := mem_tb (i := 680) (by decide +kernel) rfl
def y_MO_programmed : MethodName := ⟨"TwoSlotsModel", "programmed", "(I[II)Z"⟩
abbrev b_MO_programmed : ByteArray := prog_7_method_17_code
theorem tc_MO_programmed : Cond.code y_MO_programmed b_MO_programmed 6 (some .boolean) ∈ TB := mem_tb (i := 696) (by decide +kernel) rfl
def y_MO_isClean : MethodName := ⟨"TwoSlotsModel", "isClean", "(I)Z"⟩
abbrev b_MO_isClean : ByteArray := prog_7_method_18_code
theorem tc_MO_isClean : Cond.code y_MO_isClean b_MO_isClean 3 (some .boolean) ∈ TB := mem_tb (i := 713) (by decide +kernel) rfl
def y_MO_appended : MethodName := ⟨"TwoSlotsModel", "appended", "(IIIIJ)Z"⟩
abbrev b_MO_appended : ByteArray := prog_7_method_19_code
theorem tc_MO_appended : Cond.code y_MO_appended b_MO_appended 10 (some .boolean) ∈ TB := mem_tb (i := 709) (by decide +kernel) rfl
def y_MO_activeSlot : MethodName := ⟨"TwoSlotsModel", "activeSlot", "()I"⟩
abbrev b_MO_activeSlot : ByteArray := prog_7_method_20_code
theorem tc_MO_activeSlot : Cond.code y_MO_activeSlot b_MO_activeSlot 1 (some .int) ∈ TB := mem_tb (i := 670) (by decide +kernel) rfl
def y_MO_otherOf : MethodName := ⟨"TwoSlotsModel", "otherOf", "(I)I"⟩
abbrev b_MO_otherOf : ByteArray := prog_7_method_21_code
theorem tc_MO_otherOf : Cond.code y_MO_otherOf b_MO_otherOf 1 (some .int) ∈ TB := mem_tb (i := 673) (by decide +kernel) rfl
def y_MO_make : MethodName := ⟨"TwoSlotsModel", "make", "(IIII)I"⟩
abbrev b_MO_make : ByteArray := prog_7_method_22_code
theorem tc_MO_make : Cond.code y_MO_make b_MO_make 5 (some .int) ∈ TB := mem_tb (i := 623) (by decide +kernel) rfl
def y_MO_makerByte : MethodName := ⟨"TwoSlotsModel", "makerByte", "(II)I"⟩
abbrev b_MO_makerByte : ByteArray := prog_7_method_23_code
theorem tc_MO_makerByte : Cond.code y_MO_makerByte b_MO_makerByte 3 (some .int) ∈ TB := mem_tb (i := 637) (by decide +kernel) rfl
def y_MO_pack : MethodName := ⟨"TwoSlotsModel", "pack", "(I)I"⟩
abbrev b_MO_pack : ByteArray := prog_7_method_24_code
theorem tc_MO_pack : Cond.code y_MO_pack b_MO_pack 6 (some .int) ∈ TB := mem_tb (i := 632) (by decide +kernel) rfl
def y_MO_alter : MethodName := ⟨"TwoSlotsModel", "alter", "(II)I"⟩
abbrev b_MO_alter : ByteArray := prog_7_method_25_code
theorem tc_MO_alter : Cond.code y_MO_alter b_MO_alter 3 (some .int) ∈ TB := mem_tb (i := 641) (by decide +kernel) rfl
def y_MO_isTrial : MethodName := ⟨"TwoSlotsModel", "isTrial", "()Z"⟩
abbrev b_MO_isTrial : ByteArray := prog_7_method_26_code
theorem tc_MO_isTrial : Cond.code y_MO_isTrial b_MO_isTrial 1 (some .boolean) ∈ TB := mem_tb (i := 649) (by decide +kernel) rfl
def y_MO_offer : MethodName := ⟨"TwoSlotsModel", "offer", "()I"⟩
abbrev b_MO_offer : ByteArray := prog_7_method_27_code
theorem tc_MO_offer : Cond.code y_MO_offer b_MO_offer 4 (some .int) ∈ TB := mem_tb (i := 645) (by decide +kernel) rfl
def y_MO_awaited : MethodName := ⟨"TwoSlotsModel", "awaited", "()I"⟩
abbrev b_MO_awaited : ByteArray := prog_7_method_28_code
theorem tc_MO_awaited : Cond.code y_MO_awaited b_MO_awaited 1 (some .int) ∈ TB := mem_tb (i := 692) (by decide +kernel) rfl
def y_MO_block : MethodName := ⟨"TwoSlotsModel", "block", "()I"⟩
abbrev b_MO_block : ByteArray := prog_7_method_29_code
theorem tc_MO_block : Cond.code y_MO_block b_MO_block 4 (some .int) ∈ TB := mem_tb (i := 688) (by decide +kernel) rfl
def y_MO_finish : MethodName := ⟨"TwoSlotsModel", "finish", "()I"⟩
abbrev b_MO_finish : ByteArray := prog_7_method_30_code
theorem tc_MO_finish : Cond.code y_MO_finish b_MO_finish 3 (some .int) ∈ TB := mem_tb (i := 700) (by decide +kernel) rfl
def y_MO_booted : MethodName := ⟨"TwoSlotsModel", "booted", "()Z"⟩
abbrev b_MO_booted : ByteArray := prog_7_method_31_code
theorem tc_MO_booted : Cond.code y_MO_booted b_MO_booted 5 (some .boolean) ∈ TB := mem_tb (i := 721) (by decide +kernel) rfl
def y_MO_boot : MethodName := ⟨"TwoSlotsModel", "boot", "()I"⟩
abbrev b_MO_boot : ByteArray := prog_7_method_32_code
theorem tc_MO_boot : Cond.code y_MO_boot b_MO_boot 1 (some .int) ∈ TB := mem_tb (i := 717) (by decide +kernel) rfl
def y_MO_confirm : MethodName := ⟨"TwoSlotsModel", "confirm", "()I"⟩
abbrev b_MO_confirm : ByteArray := prog_7_method_33_code
theorem tc_MO_confirm : Cond.code y_MO_confirm b_MO_confirm 5 (some .int) ∈ TB := mem_tb (i := 729) (by decide +kernel) rfl
def y_MO_tick : MethodName := ⟨"TwoSlotsModel", "tick", "(I)I"⟩
abbrev b_MO_tick : ByteArray := prog_7_method_34_code
theorem tc_MO_tick : Cond.code y_MO_tick b_MO_tick 4 (some .int) ∈ TB := mem_tb (i := 733) (by decide +kernel) rfl
def y_MO_revoke : MethodName := ⟨"TwoSlotsModel", "revoke", "(I)I"⟩
abbrev b_MO_revoke : ByteArray := prog_7_method_35_code
theorem tc_MO_revoke : Cond.code y_MO_revoke b_MO_revoke 3 (some .int) ∈ TB := mem_tb (i := 738) (by decide +kernel) rfl
def y_MO_cut : MethodName := ⟨"TwoSlotsModel", "cut", "(II)I"⟩
abbrev b_MO_cut : ByteArray := prog_7_method_36_code
theorem tc_MO_cut : Cond.code y_MO_cut b_MO_cut 3 (some .int) ∈ TB := mem_tb (i := 742) (by decide +kernel) rfl
def y_MO_start : MethodName := ⟨"TwoSlotsModel", "start", "()I"⟩
abbrev b_MO_start : ByteArray := prog_7_method_37_code
theorem tc_MO_start : Cond.code y_MO_start b_MO_start 1 (some .int) ∈ TB := mem_tb (i := 748) (by decide +kernel) rfl
def y_MO_isByte : MethodName := ⟨"TwoSlotsModel", "isByte", "(II)Z"⟩
abbrev b_MO_isByte : ByteArray := prog_7_method_38_code
theorem tc_MO_isByte : Cond.code y_MO_isByte b_MO_isByte 2 (some .boolean) ∈ TB := mem_tb (i := 755) (by decide +kernel) rfl
def y_MO_rot : MethodName := ⟨"TwoSlotsModel", "rot", "(III)I"⟩
abbrev b_MO_rot : ByteArray := prog_7_method_39_code
theorem tc_MO_rot : Cond.code y_MO_rot b_MO_rot 4 (some .int) ∈ TB := mem_tb (i := 752) (by decide +kernel) rfl
def y_MO_octet : MethodName := ⟨"TwoSlotsModel", "octet", "(II)I"⟩
abbrev b_MO_octet : ByteArray := prog_7_method_40_code
theorem tc_MO_octet : Cond.code y_MO_octet b_MO_octet 3 (some .int) ∈ TB := mem_tb (i := 759) (by decide +kernel) rfl
def y_MO_running : MethodName := ⟨"TwoSlotsModel", "running", "()I"⟩
abbrev b_MO_running : ByteArray := prog_7_method_41_code
theorem tc_MO_running : Cond.code y_MO_running b_MO_running 1 (some .int) ∈ TB := mem_tb (i := 763) (by decide +kernel) rfl
def y_MO_watchdog : MethodName := ⟨"TwoSlotsModel", "watchdog", "()I"⟩
abbrev b_MO_watchdog : ByteArray := prog_7_method_42_code
theorem tc_MO_watchdog : Cond.code y_MO_watchdog b_MO_watchdog 1 (some .int) ∈ TB := mem_tb (i := 767) (by decide +kernel) rfl
def y_MO_slot : MethodName := ⟨"TwoSlotsModel", "slot", "(II)I"⟩
abbrev b_MO_slot : ByteArray := prog_7_method_43_code
theorem tc_MO_slot : Cond.code y_MO_slot b_MO_slot 5 (some .int) ∈ TB := mem_tb (i := 771) (by decide +kernel) rfl
def y_MO_record : MethodName := ⟨"TwoSlotsModel", "record", "(I)I"⟩
abbrev b_MO_record : ByteArray := prog_7_method_44_code
theorem tc_MO_record : Cond.code y_MO_record b_MO_record 3 (some .int) ∈ TB := mem_tb (i := 776) (by decide +kernel) rfl
def y_MO_count : MethodName := ⟨"TwoSlotsModel", "count", "(I)I"⟩
abbrev b_MO_count : ByteArray := prog_7_method_45_code
theorem tc_MO_count : Cond.code y_MO_count b_MO_count 2 (some .int) ∈ TB := mem_tb (i := 781) (by decide +kernel) rfl
theorem ti_MO : Cond.initialized "TwoSlotsModel" ∈ TB := mem_tb (i := 50) (by decide +kernel) rfl
theorem tl_MO_44 : Cond.methodLink "TwoSlotsModel" 44 y_MO_digested ∈ TB := mem_tb (i := 540) (by decide +kernel) rfl
theorem ts_MO_digested : Cond.static y_MO_digested ∈ TB := mem_tb (i := 541) (by decide +kernel) rfl
theorem tl_MO_64 : Cond.methodLink "TwoSlotsModel" 64 y_MO_numberOf ∈ TB := mem_tb (i := 552) (by decide +kernel) rfl
theorem tv_MO_numberOf : Cond.instanceMethod y_MO_numberOf ∈ TB := mem_tb (i := 554) (by decide +kernel) rfl
theorem tx_MO_numberOf : Cond.selects "TwoSlotsModel" y_MO_numberOf y_MO_numberOf ∈ TB := mem_tb (i := 22) (by decide +kernel) rfl
theorem tl_MO_60 : Cond.methodLink "TwoSlotsModel" 60 y_MO_number ∈ TB := mem_tb (i := 548) (by decide +kernel) rfl
theorem tv_MO_number : Cond.instanceMethod y_MO_number ∈ TB := mem_tb (i := 550) (by decide +kernel) rfl
theorem tx_MO_number : Cond.selects "TwoSlotsModel" y_MO_number y_MO_number ∈ TB := mem_tb (i := 21) (by decide +kernel) rfl
theorem tl_MO_68 : Cond.methodLink "TwoSlotsModel" 68 y_MO_read ∈ TB := mem_tb (i := 654) (by decide +kernel) rfl
theorem tv_MO_read : Cond.instanceMethod y_MO_read ∈ TB := mem_tb (i := 656) (by decide +kernel) rfl
theorem tx_MO_read : Cond.selects "TwoSlotsModel" y_MO_read y_MO_read ∈ TB := mem_tb (i := 27) (by decide +kernel) rfl
theorem tl_MO_76 : Cond.methodLink "TwoSlotsModel" 76 y_MO_in ∈ TB := mem_tb (i := 625) (by decide +kernel) rfl
theorem ts_MO_in : Cond.static y_MO_in ∈ TB := mem_tb (i := 626) (by decide +kernel) rfl
theorem tl_MO_80 : Cond.methodLink "TwoSlotsModel" 80 y_MO_newest ∈ TB := mem_tb (i := 650) (by decide +kernel) rfl
theorem tv_MO_newest : Cond.instanceMethod y_MO_newest ∈ TB := mem_tb (i := 652) (by decide +kernel) rfl
theorem tx_MO_newest : Cond.selects "TwoSlotsModel" y_MO_newest y_MO_newest ∈ TB := mem_tb (i := 26) (by decide +kernel) rfl
theorem tl_MO_84 : Cond.methodLink "TwoSlotsModel" 84 y_MO_headOf ∈ TB := mem_tb (i := 674) (by decide +kernel) rfl
theorem ts_MO_headOf : Cond.static y_MO_headOf ∈ TB := mem_tb (i := 675) (by decide +kernel) rfl
theorem tl_MO_96 : Cond.methodLink "TwoSlotsModel" 96 y_MO_bodyOf ∈ TB := mem_tb (i := 701) (by decide +kernel) rfl
theorem tv_MO_bodyOf : Cond.instanceMethod y_MO_bodyOf ∈ TB := mem_tb (i := 703) (by decide +kernel) rfl
theorem tx_MO_bodyOf : Cond.selects "TwoSlotsModel" y_MO_bodyOf y_MO_bodyOf ∈ TB := mem_tb (i := 35) (by decide +kernel) rfl
theorem tl_MO_92 : Cond.methodLink "TwoSlotsModel" 92 y_MO_counter ∈ TB := mem_tb (i := 663) (by decide +kernel) rfl
theorem tv_MO_counter : Cond.instanceMethod y_MO_counter ∈ TB := mem_tb (i := 665) (by decide +kernel) rfl
theorem tx_MO_counter : Cond.selects "TwoSlotsModel" y_MO_counter y_MO_counter ∈ TB := mem_tb (i := 29) (by decide +kernel) rfl
theorem tl_MO_88 : Cond.methodLink "TwoSlotsModel" 88 y_MO_isRight ∈ TB := mem_tb (i := 658) (by decide +kernel) rfl
theorem tv_MO_isRight : Cond.instanceMethod y_MO_isRight ∈ TB := mem_tb (i := 660) (by decide +kernel) rfl
theorem tx_MO_isRight : Cond.selects "TwoSlotsModel" y_MO_isRight y_MO_isRight ∈ TB := mem_tb (i := 28) (by decide +kernel) rfl
theorem tl_MO_113 : Cond.methodLink "TwoSlotsModel" 113 y_MO_goes ∈ TB := mem_tb (i := 681) (by decide +kernel) rfl
theorem tv_MO_goes : Cond.instanceMethod y_MO_goes ∈ TB := mem_tb (i := 683) (by decide +kernel) rfl
theorem tx_MO_goes : Cond.selects "TwoSlotsModel" y_MO_goes y_MO_goes ∈ TB := mem_tb (i := 32) (by decide +kernel) rfl
theorem tl_MO_118 : Cond.methodLink "TwoSlotsModel" 118 y_MO_isClean ∈ TB := mem_tb (i := 710) (by decide +kernel) rfl
theorem tv_MO_isClean : Cond.instanceMethod y_MO_isClean ∈ TB := mem_tb (i := 712) (by decide +kernel) rfl
theorem tx_MO_isClean : Cond.selects "TwoSlotsModel" y_MO_isClean y_MO_isClean ∈ TB := mem_tb (i := 37) (by decide +kernel) rfl
theorem tl_MO_122 : Cond.methodLink "TwoSlotsModel" 122 y_MO_erased ∈ TB := mem_tb (i := 677) (by decide +kernel) rfl
theorem tv_MO_erased : Cond.instanceMethod y_MO_erased ∈ TB := mem_tb (i := 679) (by decide +kernel) rfl
theorem tx_MO_erased : Cond.selects "TwoSlotsModel" y_MO_erased y_MO_erased ∈ TB := mem_tb (i := 31) (by decide +kernel) rfl
theorem tl_MO_125 : Cond.methodLink "TwoSlotsModel" 125 y_MO_programmed ∈ TB := mem_tb (i := 693) (by decide +kernel) rfl
theorem tv_MO_programmed : Cond.instanceMethod y_MO_programmed ∈ TB := mem_tb (i := 695) (by decide +kernel) rfl
theorem tx_MO_programmed : Cond.selects "TwoSlotsModel" y_MO_programmed y_MO_programmed ∈ TB := mem_tb (i := 34) (by decide +kernel) rfl
theorem tl_MO_52 : Cond.methodLink "TwoSlotsModel" 52 y_MO_lineIs ∈ TB := mem_tb (i := 557) (by decide +kernel) rfl
theorem tv_MO_lineIs : Cond.instanceMethod y_MO_lineIs ∈ TB := mem_tb (i := 559) (by decide +kernel) rfl
theorem tx_MO_lineIs : Cond.selects "TwoSlotsModel" y_MO_lineIs y_MO_lineIs ∈ TB := mem_tb (i := 23) (by decide +kernel) rfl
theorem tl_MO_145 : Cond.methodLink "TwoSlotsModel" 145 y_MO_makerByte ∈ TB := mem_tb (i := 634) (by decide +kernel) rfl
theorem tv_MO_makerByte : Cond.instanceMethod y_MO_makerByte ∈ TB := mem_tb (i := 636) (by decide +kernel) rfl
theorem tx_MO_makerByte : Cond.selects "TwoSlotsModel" y_MO_makerByte y_MO_makerByte ∈ TB := mem_tb (i := 24) (by decide +kernel) rfl
theorem tl_MO_48 : Cond.methodLink "TwoSlotsModel" 48 y_MO_header ∈ TB := mem_tb (i := 544) (by decide +kernel) rfl
theorem tv_MO_header : Cond.instanceMethod y_MO_header ∈ TB := mem_tb (i := 546) (by decide +kernel) rfl
theorem tx_MO_header : Cond.selects "TwoSlotsModel" y_MO_header y_MO_header ∈ TB := mem_tb (i := 20) (by decide +kernel) rfl
theorem tl_MO_156 : Cond.methodLink "TwoSlotsModel" 156 y_MO_otherOf ∈ TB := mem_tb (i := 671) (by decide +kernel) rfl
theorem ts_MO_otherOf : Cond.static y_MO_otherOf ∈ TB := mem_tb (i := 672) (by decide +kernel) rfl
theorem tl_MO_153 : Cond.methodLink "TwoSlotsModel" 153 y_MO_activeSlot ∈ TB := mem_tb (i := 667) (by decide +kernel) rfl
theorem tv_MO_activeSlot : Cond.instanceMethod y_MO_activeSlot ∈ TB := mem_tb (i := 669) (by decide +kernel) rfl
theorem tx_MO_activeSlot : Cond.selects "TwoSlotsModel" y_MO_activeSlot y_MO_activeSlot ∈ TB := mem_tb (i := 30) (by decide +kernel) rfl
theorem tl_MO_149 : Cond.methodLink "TwoSlotsModel" 149 y_MO_isTrial ∈ TB := mem_tb (i := 646) (by decide +kernel) rfl
theorem tv_MO_isTrial : Cond.instanceMethod y_MO_isTrial ∈ TB := mem_tb (i := 648) (by decide +kernel) rfl
theorem tx_MO_isTrial : Cond.selects "TwoSlotsModel" y_MO_isTrial y_MO_isTrial ∈ TB := mem_tb (i := 25) (by decide +kernel) rfl
theorem tl_MO_162 : Cond.methodLink "TwoSlotsModel" 162 y_MO_awaited ∈ TB := mem_tb (i := 689) (by decide +kernel) rfl
theorem tv_MO_awaited : Cond.instanceMethod y_MO_awaited ∈ TB := mem_tb (i := 691) (by decide +kernel) rfl
theorem tx_MO_awaited : Cond.selects "TwoSlotsModel" y_MO_awaited y_MO_awaited ∈ TB := mem_tb (i := 33) (by decide +kernel) rfl
theorem tl_MO_165 : Cond.methodLink "TwoSlotsModel" 165 y_MO_appended ∈ TB := mem_tb (i := 706) (by decide +kernel) rfl
theorem tv_MO_appended : Cond.instanceMethod y_MO_appended ∈ TB := mem_tb (i := 708) (by decide +kernel) rfl
theorem tx_MO_appended : Cond.selects "TwoSlotsModel" y_MO_appended y_MO_appended ∈ TB := mem_tb (i := 36) (by decide +kernel) rfl
theorem tl_MO_169 : Cond.methodLink "TwoSlotsModel" 169 y_MO_isGood ∈ TB := mem_tb (i := 722) (by decide +kernel) rfl
theorem tv_MO_isGood : Cond.instanceMethod y_MO_isGood ∈ TB := mem_tb (i := 724) (by decide +kernel) rfl
theorem tx_MO_isGood : Cond.selects "TwoSlotsModel" y_MO_isGood y_MO_isGood ∈ TB := mem_tb (i := 39) (by decide +kernel) rfl
theorem tl_MO_172 : Cond.methodLink "TwoSlotsModel" 172 y_MO_booted ∈ TB := mem_tb (i := 718) (by decide +kernel) rfl
theorem tv_MO_booted : Cond.instanceMethod y_MO_booted ∈ TB := mem_tb (i := 720) (by decide +kernel) rfl
theorem tx_MO_booted : Cond.selects "TwoSlotsModel" y_MO_booted y_MO_booted ∈ TB := mem_tb (i := 38) (by decide +kernel) rfl
theorem tl_MO_181 : Cond.methodLink "TwoSlotsModel" 181 y_MO_isByte ∈ TB := mem_tb (i := 753) (by decide +kernel) rfl
theorem ts_MO_isByte : Cond.static y_MO_isByte ∈ TB := mem_tb (i := 754) (by decide +kernel) rfl
def FT_MO : Nat → Option (Nat × Nat × Nat) := mm_tb [(7, 5, 1, 3), (13, 5, 3, 0), (17, 5, 5, 0), (20, 5, 7, 3), (23, 5, 9, 3), (26, 5, 10, 0), (29, 5, 12, 3), (32, 5, 17, 3), (35, 5, 18, 3), (38, 5, 0, 3), (100, 5, 2, 1), (104, 5, 6, 0), (107, 5, 8, 0), (110, 5, 4, 0), (131, 5, 13, 0), (134, 5, 14, 0), (137, 5, 15, 0), (140, 5, 16, 0), (159, 5, 11, 0)]
theorem ft_MO : ∀ idx q, FT_MO idx = some q → mm_fSt CL TB NW "TwoSlotsModel" idx q := mm_tb_e (List.forall_mem_cons.mpr ⟨mm_fst_i t_MO rfl (by decide) ww_MO tt_MO nn_MO (Or.inl tf_MO_7) (fun h => absurd rfl h), List.forall_mem_cons.mpr ⟨mm_fst_i t_MO rfl (by decide) ww_MO tt_MO nn_MO (Or.inl tf_MO_13) (fun _ => ⟨rfl, by decide +kernel⟩), List.forall_mem_cons.mpr ⟨mm_fst_i t_MO rfl (by decide) ww_MO tt_MO nn_MO (Or.inl tf_MO_17) (fun _ => ⟨rfl, by decide +kernel⟩), List.forall_mem_cons.mpr ⟨mm_fst_i t_MO rfl (by decide) ww_MO tt_MO nn_MO (Or.inl tf_MO_20) (fun h => absurd rfl h), List.forall_mem_cons.mpr ⟨mm_fst_i t_MO rfl (by decide) ww_MO tt_MO nn_MO (Or.inl tf_MO_23) (fun h => absurd rfl h), List.forall_mem_cons.mpr ⟨mm_fst_i t_MO rfl (by decide) ww_MO tt_MO nn_MO (Or.inl tf_MO_26) (fun _ => ⟨rfl, by decide +kernel⟩), List.forall_mem_cons.mpr ⟨mm_fst_i t_MO rfl (by decide) ww_MO tt_MO nn_MO (Or.inl tf_MO_29) (fun h => absurd rfl h), List.forall_mem_cons.mpr ⟨mm_fst_i t_MO rfl (by decide) ww_MO tt_MO nn_MO (Or.inl tf_MO_32) (fun h => absurd rfl h), List.forall_mem_cons.mpr ⟨mm_fst_i t_MO rfl (by decide) ww_MO tt_MO nn_MO (Or.inl tf_MO_35) (fun h => absurd rfl h), List.forall_mem_cons.mpr ⟨mm_fst_i t_MO rfl (by decide) ww_MO tt_MO nn_MO (Or.inl tf_MO_38) (fun h => absurd rfl h), List.forall_mem_cons.mpr ⟨mm_fst_i t_MO rfl (by decide) ww_MO tt_MO nn_MO (Or.inl tf_MO_100) (fun _ => ⟨rfl, by decide +kernel⟩), List.forall_mem_cons.mpr ⟨mm_fst_i t_MO rfl (by decide) ww_MO tt_MO nn_MO (Or.inl tf_MO_104) (fun _ => ⟨rfl, by decide +kernel⟩), List.forall_mem_cons.mpr ⟨mm_fst_i t_MO rfl (by decide) ww_MO tt_MO nn_MO (Or.inl tf_MO_107) (fun _ => ⟨rfl, by decide +kernel⟩), List.forall_mem_cons.mpr ⟨mm_fst_i t_MO rfl (by decide) ww_MO tt_MO nn_MO (Or.inl tf_MO_110) (fun _ => ⟨rfl, by decide +kernel⟩), List.forall_mem_cons.mpr ⟨mm_fst_i t_MO rfl (by decide) ww_MO tt_MO nn_MO (Or.inl tf_MO_131) (fun _ => ⟨rfl, by decide +kernel⟩), List.forall_mem_cons.mpr ⟨mm_fst_i t_MO rfl (by decide) ww_MO tt_MO nn_MO (Or.inl tf_MO_134) (fun _ => ⟨rfl, by decide +kernel⟩), List.forall_mem_cons.mpr ⟨mm_fst_i t_MO rfl (by decide) ww_MO tt_MO nn_MO (Or.inl tf_MO_137) (fun _ => ⟨rfl, by decide +kernel⟩), List.forall_mem_cons.mpr ⟨mm_fst_i t_MO rfl (by decide) ww_MO tt_MO nn_MO (Or.inl tf_MO_140) (fun _ => ⟨rfl, by decide +kernel⟩), List.forall_mem_cons.mpr ⟨mm_fst_i t_MO rfl (by decide) ww_MO tt_MO nn_MO (Or.inl tf_MO_159) (fun _ => ⟨rfl, by decide +kernel⟩), fun _ h => absurd h List.not_mem_nil⟩⟩⟩⟩⟩⟩⟩⟩⟩⟩⟩⟩⟩⟩⟩⟩⟩⟩⟩)
def CI_MO : Nat → Option Int32 := mm_tb []
theorem ci_MO : ∀ idx v, CI_MO idx = some v → Cond.constant "TwoSlotsModel" idx v ∈ TB := mm_tb_e (fun _ h => absurd h List.not_mem_nil)
def CJ_MO : Nat → Option Int64 := mm_tb [(42, (4294967295 : Int64)), (56, (-7046029254386353131 : Int64)), (58, (1099511628211 : Int64)), (72, (1415008083 : Int64)), (74, (30 : Int64)), (116, (-2 : Int64)), (129, (3 : Int64)), (143, (-1 : Int64)), (175, (100 : Int64)), (177, (1000 : Int64)), (179, (63 : Int64)), (185, (4 : Int64)), (187, (7 : Int64)), (189, (6 : Int64))]
theorem cj_MO : ∀ idx v, CJ_MO idx = some v → Cond.constantLong "TwoSlotsModel" idx v ∈ TB := mm_tb_e (List.forall_mem_cons.mpr ⟨tcj_MO_42, List.forall_mem_cons.mpr ⟨tcj_MO_56, List.forall_mem_cons.mpr ⟨tcj_MO_58, List.forall_mem_cons.mpr ⟨tcj_MO_72, List.forall_mem_cons.mpr ⟨tcj_MO_74, List.forall_mem_cons.mpr ⟨tcj_MO_116, List.forall_mem_cons.mpr ⟨tcj_MO_129, List.forall_mem_cons.mpr ⟨tcj_MO_143, List.forall_mem_cons.mpr ⟨tcj_MO_175, List.forall_mem_cons.mpr ⟨tcj_MO_177, List.forall_mem_cons.mpr ⟨tcj_MO_179, List.forall_mem_cons.mpr ⟨tcj_MO_185, List.forall_mem_cons.mpr ⟨tcj_MO_187, List.forall_mem_cons.mpr ⟨tcj_MO_189, fun _ h => absurd h List.not_mem_nil⟩⟩⟩⟩⟩⟩⟩⟩⟩⟩⟩⟩⟩⟩)
