theorem tci_JI_127 : Cond.constant "java/lang/Integer" 127 (-2147483648 : Int32) ∈ TB := mem_tb (i := 255) (by decide +kernel) rfl
theorem tf_TS_10 : Cond.fieldLink "TwoSlots" 10 "TwoSlots" "flash" "LTwoSlots$Flash;" ∈ TB := mem_tb (i := 260) (by decide +kernel) rfl
theorem tf_TS_21 : Cond.fieldLink "TwoSlots" 21 "TwoSlots" "log" "LTwoSlots$Log;" ∈ TB := mem_tb (i := 261) (by decide +kernel) rfl
theorem tf_TS_28 : Cond.fieldLink "TwoSlots" 28 "TwoSlots" "maker" "LTwoSlots$Maker;" ∈ TB := mem_tb (i := 262) (by decide +kernel) rfl
theorem tf_TS_32 : Cond.fieldLink "TwoSlots" 32 "TwoSlots" "tape" "[B" ∈ TB := mem_tb (i := 263) (by decide +kernel) rfl
theorem tf_TS_36 : Cond.fieldLink "TwoSlots" 36 "TwoSlots" "tapeBytes" "I" ∈ TB := mem_tb (i := 264) (by decide +kernel) rfl
theorem tf_TS_43 : Cond.fieldLink "TwoSlots" 43 "TwoSlots" "sheet" "LTwoSlots$Header;" ∈ TB := mem_tb (i := 265) (by decide +kernel) rfl
theorem tf_TS_47 : Cond.fieldLink "TwoSlots" 47 "TwoSlots" "offered" "LTwoSlots$Header;" ∈ TB := mem_tb (i := 266) (by decide +kernel) rfl
theorem tf_TS_50 : Cond.fieldLink "TwoSlots" 50 "TwoSlots" "offeredTo" "I" ∈ TB := mem_tb (i := 267) (by decide +kernel) rfl
theorem tf_TS_53 : Cond.fieldLink "TwoSlots" 53 "TwoSlots" "awaited" "I" ∈ TB := mem_tb (i := 268) (by decide +kernel) rfl
theorem tf_TS_56 : Cond.fieldLink "TwoSlots" 56 "TwoSlots" "runs" "I" ∈ TB := mem_tb (i := 269) (by decide +kernel) rfl
theorem tf_TS_59 : Cond.fieldLink "TwoSlots" 59 "TwoSlots" "ticksLeft" "I" ∈ TB := mem_tb (i := 270) (by decide +kernel) rfl
theorem tf_TS_62 : Cond.fieldLink "TwoSlots" 62 "TwoSlots" "boots" "I" ∈ TB := mem_tb (i := 271) (by decide +kernel) rfl
theorem tf_TS_65 : Cond.fieldLink "TwoSlots" 65 "TwoSlots" "trials" "I" ∈ TB := mem_tb (i := 272) (by decide +kernel) rfl
theorem tf_TS_68 : Cond.fieldLink "TwoSlots" 68 "TwoSlots" "watchdogs" "I" ∈ TB := mem_tb (i := 273) (by decide +kernel) rfl
theorem tf_TS_71 : Cond.fieldLink "TwoSlots" 71 "TwoSlots" "updates" "I" ∈ TB := mem_tb (i := 274) (by decide +kernel) rfl
theorem tf_TS_74 : Cond.fieldLink "TwoSlots" 74 "TwoSlots" "key" "J" ∈ TB := mem_tb (i := 259) (by decide +kernel) rfl
theorem tf_TS_88 : Cond.fieldLinkNest "TwoSlots" 88 "TwoSlots$Flash" "cells" "[B" "TwoSlots" ∈ NW := mem_nw (i := 69) (by decide +kernel) rfl
theorem tf_TS_107 : Cond.fieldLinkNest "TwoSlots" 107 "TwoSlots$Header" "row" "[B" "TwoSlots" ∈ NW := mem_nw (i := 170) (by decide +kernel) rfl
theorem tf_TS_121 : Cond.fieldLinkNest "TwoSlots" 121 "TwoSlots$Maker" "version" "I" "TwoSlots" ∈ NW := mem_nw (i := 147) (by decide +kernel) rfl
theorem tf_TS_124 : Cond.fieldLinkNest "TwoSlots" 124 "TwoSlots$Maker" "size" "I" "TwoSlots" ∈ NW := mem_nw (i := 149) (by decide +kernel) rfl
theorem tf_TS_127 : Cond.fieldLinkNest "TwoSlots" 127 "TwoSlots$Maker" "key" "I" "TwoSlots" ∈ NW := mem_nw (i := 151) (by decide +kernel) rfl
theorem tf_TS_129 : Cond.fieldLinkNest "TwoSlots" 129 "TwoSlots$Maker" "seed" "I" "TwoSlots" ∈ NW := mem_nw (i := 153) (by decide +kernel) rfl
theorem tf_TS_143 : Cond.fieldLinkNest "TwoSlots" 143 "TwoSlots$Flash" "down" "Z" "TwoSlots" ∈ NW := mem_nw (i := 76) (by decide +kernel) rfl
theorem tf_TS_151 : Cond.fieldLinkNest "TwoSlots" 151 "TwoSlots$Log" "newest" "I" "TwoSlots" ∈ NW := mem_nw (i := 106) (by decide +kernel) rfl
theorem tf_TS_164 : Cond.fieldLinkNest "TwoSlots" 164 "TwoSlots$Log" "active" "I" "TwoSlots" ∈ NW := mem_nw (i := 110) (by decide +kernel) rfl
theorem tf_TS_198 : Cond.fieldLinkNest "TwoSlots" 198 "TwoSlots$Log" "counter" "I" "TwoSlots" ∈ NW := mem_nw (i := 118) (by decide +kernel) rfl
theorem tf_TS_204 : Cond.fieldLinkNest "TwoSlots" 204 "TwoSlots$Log" "trying" "I" "TwoSlots" ∈ NW := mem_nw (i := 112) (by decide +kernel) rfl
theorem tf_TS_212 : Cond.fieldLinkNest "TwoSlots" 212 "TwoSlots$Log" "revoked" "I" "TwoSlots" ∈ NW := mem_nw (i := 116) (by decide +kernel) rfl
theorem tf_TS_218 : Cond.fieldLinkNest "TwoSlots" 218 "TwoSlots$Flash" "writesAhead" "I" "TwoSlots" ∈ NW := mem_nw (i := 72) (by decide +kernel) rfl
theorem tf_TS_221 : Cond.fieldLinkNest "TwoSlots" 221 "TwoSlots$Flash" "tear" "I" "TwoSlots" ∈ NW := mem_nw (i := 74) (by decide +kernel) rfl
theorem tf_TS_233 : Cond.fieldLinkNest "TwoSlots" 233 "TwoSlots$Log" "serial" "I" "TwoSlots" ∈ NW := mem_nw (i := 108) (by decide +kernel) rfl
theorem tf_TS_236 : Cond.fieldLinkNest "TwoSlots" 236 "TwoSlots$Log" "tries" "I" "TwoSlots" ∈ NW := mem_nw (i := 114) (by decide +kernel) rfl
theorem tf_TS_239 : Cond.fieldLinkNest "TwoSlots" 239 "TwoSlots$Flash" "writes" "I" "TwoSlots" ∈ NW := mem_nw (i := 78) (by decide +kernel) rfl
theorem tf_TS_242 : Cond.fieldLinkNest "TwoSlots" 242 "TwoSlots$Flash" "erases" "I" "TwoSlots" ∈ NW := mem_nw (i := 80) (by decide +kernel) rfl
theorem tf_TS_245 : Cond.fieldLinkNest "TwoSlots" 245 "TwoSlots$Log" "appended" "I" "TwoSlots" ∈ NW := mem_nw (i := 104) (by decide +kernel) rfl
theorem tcj_TS_269 : Cond.constantLong "TwoSlots" 269 (1099511628211 : Int64) ∈ TB := mem_tb (i := 211) (by decide +kernel) rfl
theorem tcj_TS_278 : Cond.constantLong "TwoSlots" 278 (4294967295 : Int64) ∈ TB := mem_tb (i := 193) (by decide +kernel) rfl
theorem tcj_TS_292 : Cond.constantLong "TwoSlots" 292 (-7046029254386353131 : Int64) ∈ TB := mem_tb (i := 206) (by decide +kernel) rfl
theorem tf_FL_9 : Cond.fieldLink "TwoSlots$Flash" 9 "TwoSlots$Flash" "cells" "[B" ∈ TB := mem_tb (i := 68) (by decide +kernel) rfl
theorem tf_FL_15 : Cond.fieldLink "TwoSlots$Flash" 15 "TwoSlots$Flash" "writesAhead" "I" ∈ TB := mem_tb (i := 71) (by decide +kernel) rfl
theorem tf_FL_19 : Cond.fieldLink "TwoSlots$Flash" 19 "TwoSlots$Flash" "tear" "I" ∈ TB := mem_tb (i := 73) (by decide +kernel) rfl
theorem tf_FL_22 : Cond.fieldLink "TwoSlots$Flash" 22 "TwoSlots$Flash" "down" "Z" ∈ TB := mem_tb (i := 75) (by decide +kernel) rfl
theorem tf_FL_26 : Cond.fieldLink "TwoSlots$Flash" 26 "TwoSlots$Flash" "writes" "I" ∈ TB := mem_tb (i := 77) (by decide +kernel) rfl
theorem tf_FL_29 : Cond.fieldLink "TwoSlots$Flash" 29 "TwoSlots$Flash" "erases" "I" ∈ TB := mem_tb (i := 79) (by decide +kernel) rfl
theorem tf_HD_9 : Cond.fieldLink "TwoSlots$Header" 9 "TwoSlots$Header" "row" "[B" ∈ TB := mem_tb (i := 169) (by decide +kernel) rfl
theorem tci_HD_43 : Cond.constant "TwoSlots$Header" 43 (1415008083 : Int32) ∈ TB := mem_tb (i := 349) (by decide +kernel) rfl
theorem tcj_HD_21 : Cond.constantLong "TwoSlots$Header" 21 (1415008083 : Int64) ∈ TB := mem_tb (i := 217) (by decide +kernel) rfl
theorem tf_MK_9 : Cond.fieldLink "TwoSlots$Maker" 9 "TwoSlots$Maker" "version" "I" ∈ TB := mem_tb (i := 146) (by decide +kernel) rfl
theorem tf_MK_15 : Cond.fieldLink "TwoSlots$Maker" 15 "TwoSlots$Maker" "size" "I" ∈ TB := mem_tb (i := 148) (by decide +kernel) rfl
theorem tf_MK_21 : Cond.fieldLink "TwoSlots$Maker" 21 "TwoSlots$Maker" "seed" "I" ∈ TB := mem_tb (i := 152) (by decide +kernel) rfl
theorem tf_LG_9 : Cond.fieldLink "TwoSlots$Log" 9 "TwoSlots$Log" "line" "[B" ∈ TB := mem_tb (i := 102) (by decide +kernel) rfl
theorem tf_LG_15 : Cond.fieldLink "TwoSlots$Log" 15 "TwoSlots$Log" "appended" "I" ∈ TB := mem_tb (i := 103) (by decide +kernel) rfl
theorem tf_LG_19 : Cond.fieldLink "TwoSlots$Log" 19 "TwoSlots$Log" "newest" "I" ∈ TB := mem_tb (i := 105) (by decide +kernel) rfl
theorem tf_LG_22 : Cond.fieldLink "TwoSlots$Log" 22 "TwoSlots$Log" "serial" "I" ∈ TB := mem_tb (i := 107) (by decide +kernel) rfl
theorem tf_LG_25 : Cond.fieldLink "TwoSlots$Log" 25 "TwoSlots$Log" "active" "I" ∈ TB := mem_tb (i := 109) (by decide +kernel) rfl
theorem tf_LG_28 : Cond.fieldLink "TwoSlots$Log" 28 "TwoSlots$Log" "trying" "I" ∈ TB := mem_tb (i := 111) (by decide +kernel) rfl
theorem tf_LG_31 : Cond.fieldLink "TwoSlots$Log" 31 "TwoSlots$Log" "tries" "I" ∈ TB := mem_tb (i := 113) (by decide +kernel) rfl
theorem tf_LG_34 : Cond.fieldLink "TwoSlots$Log" 34 "TwoSlots$Log" "revoked" "I" ∈ TB := mem_tb (i := 115) (by decide +kernel) rfl
theorem tf_LG_37 : Cond.fieldLink "TwoSlots$Log" 37 "TwoSlots$Log" "counter" "I" ∈ TB := mem_tb (i := 117) (by decide +kernel) rfl
theorem tf_LG_40 : Cond.fieldLink "TwoSlots$Log" 40 "TwoSlots$Log" "flash" "LTwoSlots$Flash;" ∈ TB := mem_tb (i := 101) (by decide +kernel) rfl
theorem tf_LG_52 : Cond.fieldLinkNest "TwoSlots$Log" 52 "TwoSlots$Flash" "cells" "[B" "TwoSlots" ∈ NW := mem_nw (i := 70) (by decide +kernel) rfl
def y_JM_min : MethodName := ⟨"java/lang/Math", "min", "(II)I"⟩
abbrev b_JM_min : ByteArray := prog_10_method_69_code
theorem tc_JM_min : Cond.code y_JM_min b_JM_min 2 (some .int) ∈ TB := mem_tb (i := 199) (by decide +kernel) rfl
def y_JM_max : MethodName := ⟨"java/lang/Math", "max", "(II)I"⟩
abbrev b_JM_max : ByteArray := prog_10_method_65_code
theorem tc_JM_max : Cond.code y_JM_max b_JM_max 2 (some .int) ∈ TB := mem_tb (i := 202) (by decide +kernel) rfl
def y_JL_rotateLeft : MethodName := ⟨"java/lang/Long", "rotateLeft", "(JI)J"⟩
abbrev b_JL_rotateLeft : ByteArray := prog_9_method_51_code
theorem tc_JL_rotateLeft : Cond.code y_JL_rotateLeft b_JL_rotateLeft 3 (some .long) ∈ TB := mem_tb (i := 205) (by decide +kernel) rfl
def y_JI_compare : MethodName := ⟨"java/lang/Integer", "compare", "(II)I"⟩
abbrev b_JI_compare : ByteArray := prog_8_method_40_code
theorem tc_JI_compare : Cond.code y_JI_compare b_JI_compare 2 (some .int) ∈ TB := mem_tb (i := 258) (by decide +kernel) rfl
def y_JI_compareUnsigned : MethodName := ⟨"java/lang/Integer", "compareUnsigned", "(II)I"⟩
abbrev b_JI_compareUnsigned : ByteArray := prog_8_method_41_code
theorem tc_JI_compareUnsigned : Cond.code y_JI_compareUnsigned b_JI_compareUnsigned 2 (some .int) ∈ TB := mem_tb (i := 254) (by decide +kernel) rfl
def y_JA_fill : MethodName := ⟨"java/util/Arrays", "fill", "([BB)V"⟩
abbrev b_JA_fill : ByteArray := prog_11_method_109_code
theorem tc_JA_fill : Cond.code y_JA_fill b_JA_fill 4 (none) ∈ TB := mem_tb (i := 67) (by decide +kernel) rfl
def y_TS_withoutSign : MethodName := ⟨"TwoSlots", "withoutSign", "(I)J"⟩
abbrev b_TS_withoutSign : ByteArray := prog_1_method_34_code
theorem tc_TS_withoutSign : Cond.code y_TS_withoutSign b_TS_withoutSign 1 (some .long) ∈ TB := mem_tb (i := 192) (by decide +kernel) rfl
def y_TS_otherThan : MethodName := ⟨"TwoSlots", "otherThan", "(I)I"⟩
abbrev b_TS_otherThan : ByteArray := prog_1_method_35_code
theorem tc_TS_otherThan : Cond.code y_TS_otherThan b_TS_otherThan 1 (some .int) ∈ TB := mem_tb (i := 383) (by decide +kernel) rfl
def y_TS_headerSector : MethodName := ⟨"TwoSlots", "headerSector", "(I)I"⟩
abbrev b_TS_headerSector : ByteArray := prog_1_method_36_code
theorem tc_TS_headerSector : Cond.code y_TS_headerSector b_TS_headerSector 1 (some .int) ∈ TB := mem_tb (i := 182) (by decide +kernel) rfl
def y_TS_bodyStart : MethodName := ⟨"TwoSlots", "bodyStart", "(I)I"⟩
abbrev b_TS_bodyStart : ByteArray := prog_1_method_37_code
theorem tc_TS_bodyStart : Cond.code y_TS_bodyStart b_TS_bodyStart 1 (some .int) ∈ TB := mem_tb (i := 179) (by decide +kernel) rfl
def y_TS_isInFlash : MethodName := ⟨"TwoSlots", "isInFlash", "(II)Z"⟩
abbrev b_TS_isInFlash : ByteArray := prog_1_method_38_code
theorem tc_TS_isInFlash : Cond.code y_TS_isInFlash b_TS_isInFlash 2 (some .boolean) ∈ TB := mem_tb (i := 504) (by decide +kernel) rfl
def y_TS_digest : MethodName := ⟨"TwoSlots", "digest", "(J[BII)J"⟩
abbrev b_TS_digest : ByteArray := prog_1_method_39_code
theorem tc_TS_digest : Cond.code y_TS_digest b_TS_digest 9 (some .long) ∈ TB := mem_tb (i := 196) (by decide +kernel) rfl
def y_TS_byteAt : MethodName := ⟨"TwoSlots", "byteAt", "([BI)I"⟩
abbrev b_TS_byteAt : ByteArray := prog_1_method_40_code
theorem tc_TS_byteAt : Cond.code y_TS_byteAt b_TS_byteAt 2 (some .int) ∈ TB := mem_tb (i := 228) (by decide +kernel) rfl
def y_TS_putByte : MethodName := ⟨"TwoSlots", "putByte", "([BII)V"⟩
abbrev b_TS_putByte : ByteArray := prog_1_method_41_code
theorem tc_TS_putByte : Cond.code y_TS_putByte b_TS_putByte 3 (none) ∈ TB := mem_tb (i := 185) (by decide +kernel) rfl
def y_TS_numberAt : MethodName := ⟨"TwoSlots", "numberAt", "([BII)J"⟩
abbrev b_TS_numberAt : ByteArray := prog_1_method_42_code
theorem tc_TS_numberAt : Cond.code y_TS_numberAt b_TS_numberAt 6 (some .long) ∈ TB := mem_tb (i := 247) (by decide +kernel) rfl
def y_TS_putNumber : MethodName := ⟨"TwoSlots", "putNumber", "([BIIJ)V"⟩
abbrev b_TS_putNumber : ByteArray := prog_1_method_43_code
theorem tc_TS_putNumber : Cond.code y_TS_putNumber b_TS_putNumber 6 (none) ∈ TB := mem_tb (i := 220) (by decide +kernel) rfl
def y_TS_copySector : MethodName := ⟨"TwoSlots", "copySector", "([BI[BI)V"⟩
abbrev b_TS_copySector : ByteArray := prog_1_method_44_code
theorem tc_TS_copySector : Cond.code y_TS_copySector b_TS_copySector 5 (none) ∈ TB := mem_tb (i := 225) (by decide +kernel) rfl
def y_FL_bytesOfNextWrite : MethodName := ⟨"TwoSlots$Flash", "bytesOfNextWrite", "(I)I"⟩
abbrev b_FL_bytesOfNextWrite : ByteArray := prog_2_method_5_code
theorem tc_FL_bytesOfNextWrite : Cond.code y_FL_bytesOfNextWrite b_FL_bytesOfNextWrite 2 (some .int) ∈ TB := mem_tb (i := 391) (by decide +kernel) rfl
def y_FL_erase : MethodName := ⟨"TwoSlots$Flash", "erase", "(I)Z"⟩
abbrev b_FL_erase : ByteArray := prog_2_method_2_code
theorem tc_FL_erase : Cond.code y_FL_erase b_FL_erase 4 (some .boolean) ∈ TB := mem_tb (i := 387) (by decide +kernel) rfl
def y_FL_programLine : MethodName := ⟨"TwoSlots$Flash", "programLine", "(I[BI)Z"⟩
abbrev b_FL_programLine : ByteArray := prog_2_method_3_code
theorem tc_FL_programLine : Cond.code y_FL_programLine b_FL_programLine 6 (some .boolean) ∈ TB := mem_tb (i := 413) (by decide +kernel) rfl
def y_FL_programSector : MethodName := ⟨"TwoSlots$Flash", "programSector", "(I[B)Z"⟩
abbrev b_FL_programSector : ByteArray := prog_2_method_4_code
theorem tc_FL_programSector : Cond.code y_FL_programSector b_FL_programSector 4 (some .boolean) ∈ TB := mem_tb (i := 409) (by decide +kernel) rfl
def y_HD_version : MethodName := ⟨"TwoSlots$Header", "version", "()I"⟩
abbrev b_HD_version : ByteArray := prog_3_method_3_code
theorem tc_HD_version : Cond.code y_HD_version b_HD_version 1 (some .int) ∈ TB := mem_tb (i := 375) (by decide +kernel) rfl
def y_HD_size : MethodName := ⟨"TwoSlots$Header", "size", "()I"⟩
abbrev b_HD_size : ByteArray := prog_3_method_4_code
theorem tc_HD_size : Cond.code y_HD_size b_HD_size 1 (some .int) ∈ TB := mem_tb (i := 353) (by decide +kernel) rfl
def y_HD_key : MethodName := ⟨"TwoSlots$Header", "key", "()I"⟩
abbrev b_HD_key : ByteArray := prog_3_method_5_code
theorem tc_HD_key : Cond.code y_HD_key b_HD_key 1 (some .int) ∈ TB := mem_tb (i := 357) (by decide +kernel) rfl
def y_HD_bodyDigest : MethodName := ⟨"TwoSlots$Header", "bodyDigest", "()J"⟩
abbrev b_HD_bodyDigest : ByteArray := prog_3_method_6_code
theorem tc_HD_bodyDigest : Cond.code y_HD_bodyDigest b_HD_bodyDigest 1 (some .long) ∈ TB := mem_tb (i := 422) (by decide +kernel) rfl
def y_HD_compose : MethodName := ⟨"TwoSlots$Header", "compose", "(IIIJJ)V"⟩
abbrev b_HD_compose : ByteArray := prog_3_method_2_code
theorem tc_HD_compose : Cond.code y_HD_compose b_HD_compose 8 (none) ∈ TB := mem_tb (i := 215) (by decide +kernel) rfl
def y_HD_isZero : MethodName := ⟨"TwoSlots$Header", "isZero", "(II)Z"⟩
abbrev b_HD_isZero : ByteArray := prog_3_method_9_code
theorem tc_HD_isZero : Cond.code y_HD_isZero b_HD_isZero 4 (some .boolean) ∈ TB := mem_tb (i := 362) (by decide +kernel) rfl
def y_HD_hasForm : MethodName := ⟨"TwoSlots$Header", "hasForm", "()Z"⟩
abbrev b_HD_hasForm : ByteArray := prog_3_method_7_code
theorem tc_HD_hasForm : Cond.code y_HD_hasForm b_HD_hasForm 1 (some .boolean) ∈ TB := mem_tb (i := 347) (by decide +kernel) rfl
def y_HD_isSealedWith : MethodName := ⟨"TwoSlots$Header", "isSealedWith", "(J)Z"⟩
abbrev b_HD_isSealedWith : ByteArray := prog_3_method_8_code
theorem tc_HD_isSealedWith : Cond.code y_HD_isSealedWith b_HD_isSealedWith 3 (some .boolean) ∈ TB := mem_tb (i := 367) (by decide +kernel) rfl
def y_MK_layBlock : MethodName := ⟨"TwoSlots$Maker", "layBlock", "(I[B)V"⟩
abbrev b_MK_layBlock : ByteArray := prog_5_method_2_code
theorem tc_MK_layBlock : Cond.code y_MK_layBlock b_MK_layBlock 4 (none) ∈ TB := mem_tb (i := 324) (by decide +kernel) rfl
def y_MK_bodyDigest : MethodName := ⟨"TwoSlots$Maker", "bodyDigest", "([B)J"⟩
abbrev b_MK_bodyDigest : ByteArray := prog_5_method_3_code
theorem tc_MK_bodyDigest : Cond.code y_MK_bodyDigest b_MK_bodyDigest 5 (some .long) ∈ TB := mem_tb (i := 319) (by decide +kernel) rfl
def y_LG_isWhole : MethodName := ⟨"TwoSlots$Log", "isWhole", "(I)Z"⟩
abbrev b_LG_isWhole : ByteArray := prog_4_method_12_code
theorem tc_LG_isWhole : Cond.code y_LG_isWhole b_LG_isWhole 3 (some .boolean) ∈ TB := mem_tb (i := 251) (by decide +kernel) rfl
def y_LG_isBlank : MethodName := ⟨"TwoSlots$Log", "isBlank", "(I)Z"⟩
abbrev b_LG_isBlank : ByteArray := prog_4_method_11_code
theorem tc_LG_isBlank : Cond.code y_LG_isBlank b_LG_isBlank 3 (some .boolean) ∈ TB := mem_tb (i := 438) (by decide +kernel) rfl
def y_LG_blankLineBehindNewest : MethodName := ⟨"TwoSlots$Log", "blankLineBehindNewest", "()I"⟩
abbrev b_LG_blankLineBehindNewest : ByteArray := prog_4_method_10_code
theorem tc_LG_blankLineBehindNewest : Cond.code y_LG_blankLineBehindNewest b_LG_blankLineBehindNewest 3 (some .int) ∈ TB := mem_tb (i := 434) (by decide +kernel) rfl
def y_LG_look : MethodName := ⟨"TwoSlots$Log", "look", "()V"⟩
abbrev b_LG_look : ByteArray := prog_4_method_3_code
theorem tc_LG_look : Cond.code y_LG_look b_LG_look 3 (none) ∈ TB := mem_tb (i := 244) (by decide +kernel) rfl
def y_LG_compose : MethodName := ⟨"TwoSlots$Log", "compose", "(IIIII)V"⟩
abbrev b_LG_compose : ByteArray := prog_4_method_9_code
theorem tc_LG_compose : Cond.code y_LG_compose b_LG_compose 6 (none) ∈ TB := mem_tb (i := 236) (by decide +kernel) rfl
def y_LG_layFirst : MethodName := ⟨"TwoSlots$Log", "layFirst", "(I)V"⟩
abbrev b_LG_layFirst : ByteArray := prog_4_method_2_code
theorem tc_LG_layFirst : Cond.code y_LG_layFirst b_LG_layFirst 3 (none) ∈ TB := mem_tb (i := 232) (by decide +kernel) rfl
def y_LG_append : MethodName := ⟨"TwoSlots$Log", "append", "(IIIII)Z"⟩
abbrev b_LG_append : ByteArray := prog_4_method_8_code
theorem tc_LG_append : Cond.code y_LG_append b_LG_append 9 (some .boolean) ∈ TB := mem_tb (i := 430) (by decide +kernel) rfl
def y_LG_appendTrying : MethodName := ⟨"TwoSlots$Log", "appendTrying", "(II)Z"⟩
abbrev b_LG_appendTrying : ByteArray := prog_4_method_4_code
theorem tc_LG_appendTrying : Cond.code y_LG_appendTrying b_LG_appendTrying 3 (some .boolean) ∈ TB := mem_tb (i := 426) (by decide +kernel) rfl
def y_LG_appendActive : MethodName := ⟨"TwoSlots$Log", "appendActive", "(I)Z"⟩
abbrev b_LG_appendActive : ByteArray := prog_4_method_5_code
theorem tc_LG_appendActive : Cond.code y_LG_appendActive b_LG_appendActive 2 (some .boolean) ∈ TB := mem_tb (i := 469) (by decide +kernel) rfl
def y_LG_appendConfirmed : MethodName := ⟨"TwoSlots$Log", "appendConfirmed", "(II)Z"⟩
abbrev b_LG_appendConfirmed : ByteArray := prog_4_method_6_code
theorem tc_LG_appendConfirmed : Cond.code y_LG_appendConfirmed b_LG_appendConfirmed 3 (some .boolean) ∈ TB := mem_tb (i := 477) (by decide +kernel) rfl
def y_LG_appendRevoked : MethodName := ⟨"TwoSlots$Log", "appendRevoked", "(I)Z"⟩
abbrev b_LG_appendRevoked : ByteArray := prog_4_method_7_code
theorem tc_LG_appendRevoked : Cond.code y_LG_appendRevoked b_LG_appendRevoked 2 (some .boolean) ∈ TB := mem_tb (i := 489) (by decide +kernel) rfl
def y_TS_keyNumber : MethodName := ⟨"TwoSlots", "keyNumber", "(I)J"⟩
abbrev b_TS_keyNumber : ByteArray := prog_1_method_32_code
theorem tc_TS_keyNumber : Cond.code y_TS_keyNumber b_TS_keyNumber 2 (some .long) ∈ TB := mem_tb (i := 210) (by decide +kernel) rfl
def y_TS_isBelowCounter : MethodName := ⟨"TwoSlots", "isBelowCounter", "(I)Z"⟩
abbrev b_TS_isBelowCounter : ByteArray := prog_1_method_31_code
theorem tc_TS_isBelowCounter : Cond.code y_TS_isBelowCounter b_TS_isBelowCounter 2 (some .boolean) ∈ TB := mem_tb (i := 379) (by decide +kernel) rfl
def y_TS_isRevoked : MethodName := ⟨"TwoSlots", "isRevoked", "(I)Z"⟩
abbrev b_TS_isRevoked : ByteArray := prog_1_method_30_code
theorem tc_TS_isRevoked : Cond.code y_TS_isRevoked b_TS_isRevoked 2 (some .boolean) ∈ TB := mem_tb (i := 371) (by decide +kernel) rfl
def y_TS_isSheetRight : MethodName := ⟨"TwoSlots", "isSheetRight", "()Z"⟩
abbrev b_TS_isSheetRight : ByteArray := prog_1_method_29_code
theorem tc_TS_isSheetRight : Cond.code y_TS_isSheetRight b_TS_isSheetRight 1 (some .boolean) ∈ TB := mem_tb (i := 343) (by decide +kernel) rfl
def y_TS_readHeader : MethodName := ⟨"TwoSlots", "readHeader", "(I)V"⟩
abbrev b_TS_readHeader : ByteArray := prog_1_method_28_code
theorem tc_TS_readHeader : Cond.code y_TS_readHeader b_TS_readHeader 2 (none) ∈ TB := mem_tb (i := 457) (by decide +kernel) rfl
def y_TS_bodyDigest : MethodName := ⟨"TwoSlots", "bodyDigest", "(III)J"⟩
abbrev b_TS_bodyDigest : ByteArray := prog_1_method_33_code
theorem tc_TS_bodyDigest : Cond.code y_TS_bodyDigest b_TS_bodyDigest 5 (some .long) ∈ TB := mem_tb (i := 189) (by decide +kernel) rfl
def y_TS_isGood : MethodName := ⟨"TwoSlots", "isGood", "(I)Z"⟩
abbrev b_TS_isGood : ByteArray := prog_1_method_27_code
theorem tc_TS_isGood : Cond.code y_TS_isGood b_TS_isGood 2 (some .boolean) ∈ TB := mem_tb (i := 453) (by decide +kernel) rfl
def y_TS_runsForGood : MethodName := ⟨"TwoSlots", "runsForGood", "()Z"⟩
abbrev b_TS_runsForGood : ByteArray := prog_1_method_26_code
theorem tc_TS_runsForGood : Cond.code y_TS_runsForGood b_TS_runsForGood 1 (some .boolean) ∈ TB := mem_tb (i := 339) (by decide +kernel) rfl
def y_TS_dropOffer : MethodName := ⟨"TwoSlots", "dropOffer", "()V"⟩
abbrev b_TS_dropOffer : ByteArray := prog_1_method_25_code
theorem tc_TS_dropOffer : Cond.code y_TS_dropOffer b_TS_dropOffer 1 (none) ∈ TB := mem_tb (i := 400) (by decide +kernel) rfl
def y_TS_lose : MethodName := ⟨"TwoSlots", "lose", "()I"⟩
abbrev b_TS_lose : ByteArray := prog_1_method_24_code
theorem tc_TS_lose : Cond.code y_TS_lose b_TS_lose 1 (some .int) ∈ TB := mem_tb (i := 396) (by decide +kernel) rfl
def y_TS_runActive : MethodName := ⟨"TwoSlots", "runActive", "()I"⟩
abbrev b_TS_runActive : ByteArray := prog_1_method_23_code
theorem tc_TS_runActive : Cond.code y_TS_runActive b_TS_runActive 3 (some .int) ∈ TB := mem_tb (i := 465) (by decide +kernel) rfl
def y_TS_runOnTrial : MethodName := ⟨"TwoSlots", "runOnTrial", "(I)I"⟩
abbrev b_TS_runOnTrial : ByteArray := prog_1_method_22_code
theorem tc_TS_runOnTrial : Cond.code y_TS_runOnTrial b_TS_runOnTrial 2 (some .int) ∈ TB := mem_tb (i := 461) (by decide +kernel) rfl
def y_TS_bootUp : MethodName := ⟨"TwoSlots", "bootUp", "()I"⟩
abbrev b_TS_bootUp : ByteArray := prog_1_method_21_code
theorem tc_TS_bootUp : Cond.code y_TS_bootUp b_TS_bootUp 2 (some .int) ∈ TB := mem_tb (i := 449) (by decide +kernel) rfl
def y_TS_make : MethodName := ⟨"TwoSlots", "make", "(IIII)I"⟩
abbrev b_TS_make : ByteArray := prog_1_method_2_code
theorem tc_TS_make : Cond.code y_TS_make b_TS_make 5 (some .int) ∈ TB := mem_tb (i := 311) (by decide +kernel) rfl
def y_TS_pack : MethodName := ⟨"TwoSlots", "pack", "(I)I"⟩
abbrev b_TS_pack : ByteArray := prog_1_method_3_code
theorem tc_TS_pack : Cond.code y_TS_pack b_TS_pack 4 (some .int) ∈ TB := mem_tb (i := 315) (by decide +kernel) rfl
def y_TS_alter : MethodName := ⟨"TwoSlots", "alter", "(II)I"⟩
abbrev b_TS_alter : ByteArray := prog_1_method_4_code
theorem tc_TS_alter : Cond.code y_TS_alter b_TS_alter 3 (some .int) ∈ TB := mem_tb (i := 331) (by decide +kernel) rfl
def y_TS_offer : MethodName := ⟨"TwoSlots", "offer", "()I"⟩
abbrev b_TS_offer : ByteArray := prog_1_method_5_code
theorem tc_TS_offer : Cond.code y_TS_offer b_TS_offer 3 (some .int) ∈ TB := mem_tb (i := 335) (by decide +kernel) rfl
def y_TS_block : MethodName := ⟨"TwoSlots", "block", "()I"⟩
abbrev b_TS_block : ByteArray := prog_1_method_6_code
theorem tc_TS_block : Cond.code y_TS_block b_TS_block 2 (some .int) ∈ TB := mem_tb (i := 405) (by decide +kernel) rfl
def y_TS_finish : MethodName := ⟨"TwoSlots", "finish", "()I"⟩
abbrev b_TS_finish : ByteArray := prog_1_method_7_code
theorem tc_TS_finish : Cond.code y_TS_finish b_TS_finish 2 (some .int) ∈ TB := mem_tb (i := 418) (by decide +kernel) rfl
def y_TS_boot : MethodName := ⟨"TwoSlots", "boot", "()I"⟩
abbrev b_TS_boot : ByteArray := prog_1_method_8_code
theorem tc_TS_boot : Cond.code y_TS_boot b_TS_boot 1 (some .int) ∈ TB := mem_tb (i := 445) (by decide +kernel) rfl
def y_TS_confirm : MethodName := ⟨"TwoSlots", "confirm", "()I"⟩
abbrev b_TS_confirm : ByteArray := prog_1_method_9_code
theorem tc_TS_confirm : Cond.code y_TS_confirm b_TS_confirm 3 (some .int) ∈ TB := mem_tb (i := 473) (by decide +kernel) rfl
def y_TS_tick : MethodName := ⟨"TwoSlots", "tick", "(I)I"⟩
abbrev b_TS_tick : ByteArray := prog_1_method_10_code
theorem tc_TS_tick : Cond.code y_TS_tick b_TS_tick 4 (some .int) ∈ TB := mem_tb (i := 481) (by decide +kernel) rfl
def y_TS_revoke : MethodName := ⟨"TwoSlots", "revoke", "(I)I"⟩
abbrev b_TS_revoke : ByteArray := prog_1_method_11_code
theorem tc_TS_revoke : Cond.code y_TS_revoke b_TS_revoke 2 (some .int) ∈ TB := mem_tb (i := 485) (by decide +kernel) rfl
def y_TS_cut : MethodName := ⟨"TwoSlots", "cut", "(II)I"⟩
abbrev b_TS_cut : ByteArray := prog_1_method_12_code
theorem tc_TS_cut : Cond.code y_TS_cut b_TS_cut 3 (some .int) ∈ TB := mem_tb (i := 493) (by decide +kernel) rfl
def y_TS_start : MethodName := ⟨"TwoSlots", "start", "()I"⟩
abbrev b_TS_start : ByteArray := prog_1_method_13_code
theorem tc_TS_start : Cond.code y_TS_start b_TS_start 1 (some .int) ∈ TB := mem_tb (i := 497) (by decide +kernel) rfl
def y_TS_rot : MethodName := ⟨"TwoSlots", "rot", "(III)I"⟩
abbrev b_TS_rot : ByteArray := prog_1_method_14_code
theorem tc_TS_rot : Cond.code y_TS_rot b_TS_rot 5 (some .int) ∈ TB := mem_tb (i := 501) (by decide +kernel) rfl
def y_TS_octet : MethodName := ⟨"TwoSlots", "octet", "(II)I"⟩
abbrev b_TS_octet : ByteArray := prog_1_method_15_code
theorem tc_TS_octet : Cond.code y_TS_octet b_TS_octet 3 (some .int) ∈ TB := mem_tb (i := 509) (by decide +kernel) rfl
def y_TS_running : MethodName := ⟨"TwoSlots", "running", "()I"⟩
abbrev b_TS_running : ByteArray := prog_1_method_16_code
theorem tc_TS_running : Cond.code y_TS_running b_TS_running 1 (some .int) ∈ TB := mem_tb (i := 513) (by decide +kernel) rfl
def y_TS_watchdog : MethodName := ⟨"TwoSlots", "watchdog", "()I"⟩
abbrev b_TS_watchdog : ByteArray := prog_1_method_17_code
theorem tc_TS_watchdog : Cond.code y_TS_watchdog b_TS_watchdog 1 (some .int) ∈ TB := mem_tb (i := 517) (by decide +kernel) rfl
def y_TS_slot : MethodName := ⟨"TwoSlots", "slot", "(II)I"⟩
abbrev b_TS_slot : ByteArray := prog_1_method_18_code
theorem tc_TS_slot : Cond.code y_TS_slot b_TS_slot 3 (some .int) ∈ TB := mem_tb (i := 521) (by decide +kernel) rfl
def y_TS_record : MethodName := ⟨"TwoSlots", "record", "(I)I"⟩
abbrev b_TS_record : ByteArray := prog_1_method_19_code
theorem tc_TS_record : Cond.code y_TS_record b_TS_record 2 (some .int) ∈ TB := mem_tb (i := 525) (by decide +kernel) rfl
def y_TS_count : MethodName := ⟨"TwoSlots", "count", "(I)I"⟩
abbrev b_TS_count : ByteArray := prog_1_method_20_code
theorem tc_TS_count : Cond.code y_TS_count b_TS_count 2 (some .int) ∈ TB := mem_tb (i := 529) (by decide +kernel) rfl
theorem ti_JI : Cond.initialized "java/lang/Integer" ∈ TB := mem_tb (i := 49) (by decide +kernel) rfl
theorem tl_JI_259 : Cond.methodLink "java/lang/Integer" 259 y_JI_compare ∈ TB := mem_tb (i := 256) (by decide +kernel) rfl
theorem ts_JI_compare : Cond.static y_JI_compare ∈ TB := mem_tb (i := 257) (by decide +kernel) rfl
theorem ti_TS : Cond.initialized "TwoSlots" ∈ TB := mem_tb (i := 41) (by decide +kernel) rfl
theorem tl_TS_110 : Cond.methodLink "TwoSlots" 110 y_TS_headerSector ∈ TB := mem_tb (i := 180) (by decide +kernel) rfl
theorem ts_TS_headerSector : Cond.static y_TS_headerSector ∈ TB := mem_tb (i := 181) (by decide +kernel) rfl
theorem ti_JL : Cond.initialized "java/lang/Long" ∈ TB := mem_tb (i := 48) (by decide +kernel) rfl
theorem tl_TS_286 : Cond.methodLink "TwoSlots" 286 y_JL_rotateLeft ∈ TB := mem_tb (i := 203) (by decide +kernel) rfl
theorem ts_JL_rotateLeft : Cond.static y_JL_rotateLeft ∈ TB := mem_tb (i := 204) (by decide +kernel) rfl
theorem ti_JM : Cond.initialized "java/lang/Math" ∈ TB := mem_tb (i := 47) (by decide +kernel) rfl
theorem tl_TS_283 : Cond.methodLink "TwoSlots" 283 y_JM_max ∈ TB := mem_tb (i := 200) (by decide +kernel) rfl
theorem ts_JM_max : Cond.static y_JM_max ∈ TB := mem_tb (i := 201) (by decide +kernel) rfl
theorem tl_TS_280 : Cond.methodLink "TwoSlots" 280 y_JM_min ∈ TB := mem_tb (i := 197) (by decide +kernel) rfl
theorem ts_JM_min : Cond.static y_JM_min ∈ TB := mem_tb (i := 198) (by decide +kernel) rfl
theorem tl_TS_91 : Cond.methodLink "TwoSlots" 91 y_TS_putByte ∈ TB := mem_tb (i := 183) (by decide +kernel) rfl
theorem ts_TS_putByte : Cond.static y_TS_putByte ∈ TB := mem_tb (i := 184) (by decide +kernel) rfl
theorem tl_TS_139 : Cond.methodLink "TwoSlots" 139 y_TS_byteAt ∈ TB := mem_tb (i := 226) (by decide +kernel) rfl
theorem ts_TS_byteAt : Cond.static y_TS_byteAt ∈ TB := mem_tb (i := 227) (by decide +kernel) rfl
theorem tl_FL_42 : Cond.methodLinkNest "TwoSlots$Flash" 42 y_TS_putByte "TwoSlots" ∈ NW := mem_nw (i := 392) (by decide +kernel) rfl
theorem ti_FL : Cond.initialized "TwoSlots$Flash" ∈ TB := mem_tb (i := 42) (by decide +kernel) rfl
theorem tl_FL_38 : Cond.methodLink "TwoSlots$Flash" 38 y_FL_bytesOfNextWrite ∈ TB := mem_tb (i := 388) (by decide +kernel) rfl
theorem tv_FL_bytesOfNextWrite : Cond.instanceMethod y_FL_bytesOfNextWrite ∈ TB := mem_tb (i := 390) (by decide +kernel) rfl
theorem tx_FL_bytesOfNextWrite : Cond.selects "TwoSlots$Flash" y_FL_bytesOfNextWrite y_FL_bytesOfNextWrite ∈ TB := mem_tb (i := 9) (by decide +kernel) rfl
theorem tl_FL_46 : Cond.methodLinkNest "TwoSlots$Flash" 46 y_TS_byteAt "TwoSlots" ∈ NW := mem_nw (i := 414) (by decide +kernel) rfl
theorem tl_FL_50 : Cond.methodLink "TwoSlots$Flash" 50 y_FL_programLine ∈ TB := mem_tb (i := 410) (by decide +kernel) rfl
theorem tv_FL_programLine : Cond.instanceMethod y_FL_programLine ∈ TB := mem_tb (i := 411) (by decide +kernel) rfl
theorem tx_FL_programLine : Cond.selects "TwoSlots$Flash" y_FL_programLine y_FL_programLine ∈ TB := mem_tb (i := 412) (by decide +kernel) rfl
theorem tl_HD_35 : Cond.methodLinkNest "TwoSlots$Header" 35 y_TS_numberAt "TwoSlots" ∈ NW := mem_nw (i := 348) (by decide +kernel) rfl
theorem ts_TS_numberAt : Cond.static y_TS_numberAt ∈ TB := mem_tb (i := 246) (by decide +kernel) rfl
theorem tl_HD_39 : Cond.methodLinkNest "TwoSlots$Header" 39 y_TS_byteAt "TwoSlots" ∈ NW := mem_nw (i := 358) (by decide +kernel) rfl
theorem tl_HD_31 : Cond.methodLinkNest "TwoSlots$Header" 31 y_TS_digest "TwoSlots" ∈ NW := mem_nw (i := 222) (by decide +kernel) rfl
theorem ts_TS_digest : Cond.static y_TS_digest ∈ TB := mem_tb (i := 195) (by decide +kernel) rfl
theorem tl_HD_27 : Cond.methodLinkNest "TwoSlots$Header" 27 y_TS_putByte "TwoSlots" ∈ NW := mem_nw (i := 221) (by decide +kernel) rfl
theorem tl_HD_23 : Cond.methodLinkNest "TwoSlots$Header" 23 y_TS_putNumber "TwoSlots" ∈ NW := mem_nw (i := 218) (by decide +kernel) rfl
theorem ts_TS_putNumber : Cond.static y_TS_putNumber ∈ TB := mem_tb (i := 219) (by decide +kernel) rfl
theorem ti_JA : Cond.initialized "java/util/Arrays" ∈ TB := mem_tb (i := 43) (by decide +kernel) rfl
theorem tl_HD_15 : Cond.methodLink "TwoSlots$Header" 15 y_JA_fill ∈ TB := mem_tb (i := 216) (by decide +kernel) rfl
theorem ts_JA_fill : Cond.static y_JA_fill ∈ TB := mem_tb (i := 66) (by decide +kernel) rfl
theorem ti_HD : Cond.initialized "TwoSlots$Header" ∈ TB := mem_tb (i := 46) (by decide +kernel) rfl
theorem tl_HD_51 : Cond.methodLink "TwoSlots$Header" 51 y_HD_isZero ∈ TB := mem_tb (i := 359) (by decide +kernel) rfl
theorem tv_HD_isZero : Cond.instanceMethod y_HD_isZero ∈ TB := mem_tb (i := 361) (by decide +kernel) rfl
theorem tx_HD_isZero : Cond.selects "TwoSlots$Header" y_HD_isZero y_HD_isZero ∈ TB := mem_tb (i := 6) (by decide +kernel) rfl
theorem tl_HD_48 : Cond.methodLink "TwoSlots$Header" 48 y_HD_key ∈ TB := mem_tb (i := 354) (by decide +kernel) rfl
theorem tv_HD_key : Cond.instanceMethod y_HD_key ∈ TB := mem_tb (i := 355) (by decide +kernel) rfl
theorem tx_HD_key : Cond.selects "TwoSlots$Header" y_HD_key y_HD_key ∈ TB := mem_tb (i := 356) (by decide +kernel) rfl
theorem tl_HD_44 : Cond.methodLink "TwoSlots$Header" 44 y_HD_size ∈ TB := mem_tb (i := 350) (by decide +kernel) rfl
theorem tv_HD_size : Cond.instanceMethod y_HD_size ∈ TB := mem_tb (i := 351) (by decide +kernel) rfl
theorem tx_HD_size : Cond.selects "TwoSlots$Header" y_HD_size y_HD_size ∈ TB := mem_tb (i := 352) (by decide +kernel) rfl
theorem tl_MK_24 : Cond.methodLinkNest "TwoSlots$Maker" 24 y_TS_putByte "TwoSlots" ∈ NW := mem_nw (i := 325) (by decide +kernel) rfl
theorem tl_MK_36 : Cond.methodLinkNest "TwoSlots$Maker" 36 y_TS_digest "TwoSlots" ∈ NW := mem_nw (i := 326) (by decide +kernel) rfl
theorem tl_MK_28 : Cond.methodLinkNest "TwoSlots$Maker" 28 y_TS_withoutSign "TwoSlots" ∈ NW := mem_nw (i := 320) (by decide +kernel) rfl
theorem ts_TS_withoutSign : Cond.static y_TS_withoutSign ∈ TB := mem_tb (i := 191) (by decide +kernel) rfl
theorem ti_MK : Cond.initialized "TwoSlots$Maker" ∈ TB := mem_tb (i := 45) (by decide +kernel) rfl
theorem tl_MK_32 : Cond.methodLink "TwoSlots$Maker" 32 y_MK_layBlock ∈ TB := mem_tb (i := 321) (by decide +kernel) rfl
theorem tv_MK_layBlock : Cond.instanceMethod y_MK_layBlock ∈ TB := mem_tb (i := 322) (by decide +kernel) rfl
theorem tx_MK_layBlock : Cond.selects "TwoSlots$Maker" y_MK_layBlock y_MK_layBlock ∈ TB := mem_tb (i := 323) (by decide +kernel) rfl
theorem tl_LG_57 : Cond.methodLinkNest "TwoSlots$Log" 57 y_TS_byteAt "TwoSlots" ∈ NW := mem_nw (i := 240) (by decide +kernel) rfl
theorem ti_LG : Cond.initialized "TwoSlots$Log" ∈ TB := mem_tb (i := 44) (by decide +kernel) rfl
theorem tl_LG_107 : Cond.methodLink "TwoSlots$Log" 107 y_LG_isBlank ∈ TB := mem_tb (i := 435) (by decide +kernel) rfl
theorem tv_LG_isBlank : Cond.instanceMethod y_LG_isBlank ∈ TB := mem_tb (i := 437) (by decide +kernel) rfl
theorem tx_LG_isBlank : Cond.selects "TwoSlots$Log" y_LG_isBlank y_LG_isBlank ∈ TB := mem_tb (i := 14) (by decide +kernel) rfl
theorem tl_LG_76 : Cond.methodLink "TwoSlots$Log" 76 y_JI_compareUnsigned ∈ TB := mem_tb (i := 252) (by decide +kernel) rfl
theorem ts_JI_compareUnsigned : Cond.static y_JI_compareUnsigned ∈ TB := mem_tb (i := 253) (by decide +kernel) rfl
theorem tl_LG_68 : Cond.methodLinkNest "TwoSlots$Log" 68 y_TS_numberAt "TwoSlots" ∈ NW := mem_nw (i := 245) (by decide +kernel) rfl
theorem tl_LG_72 : Cond.methodLink "TwoSlots$Log" 72 y_LG_isWhole ∈ TB := mem_tb (i := 248) (by decide +kernel) rfl
theorem tv_LG_isWhole : Cond.instanceMethod y_LG_isWhole ∈ TB := mem_tb (i := 250) (by decide +kernel) rfl
theorem tx_LG_isWhole : Cond.selects "TwoSlots$Log" y_LG_isWhole y_LG_isWhole ∈ TB := mem_tb (i := 3) (by decide +kernel) rfl
theorem tl_LG_48 : Cond.methodLinkNest "TwoSlots$Log" 48 y_TS_putNumber "TwoSlots" ∈ NW := mem_nw (i := 239) (by decide +kernel) rfl
theorem tl_LG_61 : Cond.methodLinkNest "TwoSlots$Log" 61 y_TS_putByte "TwoSlots" ∈ NW := mem_nw (i := 238) (by decide +kernel) rfl
theorem tl_LG_101 : Cond.methodLink "TwoSlots$Log" 101 y_JA_fill ∈ TB := mem_tb (i := 237) (by decide +kernel) rfl
theorem tl_LG_65 : Cond.methodLink "TwoSlots$Log" 65 y_LG_look ∈ TB := mem_tb (i := 241) (by decide +kernel) rfl
theorem tv_LG_look : Cond.instanceMethod y_LG_look ∈ TB := mem_tb (i := 242) (by decide +kernel) rfl
theorem tx_LG_look : Cond.selects "TwoSlots$Log" y_LG_look y_LG_look ∈ TB := mem_tb (i := 243) (by decide +kernel) rfl
theorem tl_LG_44 : Cond.methodLink "TwoSlots$Log" 44 y_LG_compose ∈ TB := mem_tb (i := 233) (by decide +kernel) rfl
theorem tv_LG_compose : Cond.instanceMethod y_LG_compose ∈ TB := mem_tb (i := 235) (by decide +kernel) rfl
theorem tx_LG_compose : Cond.selects "TwoSlots$Log" y_LG_compose y_LG_compose ∈ TB := mem_tb (i := 2) (by decide +kernel) rfl
theorem tl_LG_90 : Cond.methodLinkNest "TwoSlots$Log" 90 y_TS_otherThan "TwoSlots" ∈ NW := mem_nw (i := 439) (by decide +kernel) rfl
theorem ts_TS_otherThan : Cond.static y_TS_otherThan ∈ TB := mem_tb (i := 382) (by decide +kernel) rfl
theorem tl_LG_94 : Cond.methodLink "TwoSlots$Log" 94 y_FL_erase ∈ TB := mem_tb (i := 440) (by decide +kernel) rfl
theorem tv_FL_erase : Cond.instanceMethod y_FL_erase ∈ TB := mem_tb (i := 385) (by decide +kernel) rfl
theorem tx_FL_erase : Cond.selects "TwoSlots$Flash" y_FL_erase y_FL_erase ∈ TB := mem_tb (i := 386) (by decide +kernel) rfl
theorem tl_LG_97 : Cond.methodLink "TwoSlots$Log" 97 y_FL_programLine ∈ TB := mem_tb (i := 441) (by decide +kernel) rfl
theorem tl_LG_86 : Cond.methodLink "TwoSlots$Log" 86 y_LG_blankLineBehindNewest ∈ TB := mem_tb (i := 431) (by decide +kernel) rfl
theorem tv_LG_blankLineBehindNewest : Cond.instanceMethod y_LG_blankLineBehindNewest ∈ TB := mem_tb (i := 433) (by decide +kernel) rfl
theorem tx_LG_blankLineBehindNewest : Cond.selects "TwoSlots$Log" y_LG_blankLineBehindNewest y_LG_blankLineBehindNewest ∈ TB := mem_tb (i := 13) (by decide +kernel) rfl
theorem tl_LG_82 : Cond.methodLink "TwoSlots$Log" 82 y_LG_append ∈ TB := mem_tb (i := 427) (by decide +kernel) rfl
theorem tv_LG_append : Cond.instanceMethod y_LG_append ∈ TB := mem_tb (i := 429) (by decide +kernel) rfl
theorem tx_LG_append : Cond.selects "TwoSlots$Log" y_LG_append y_LG_append ∈ TB := mem_tb (i := 12) (by decide +kernel) rfl
theorem tl_TS_264 : Cond.methodLink "TwoSlots" 264 y_JI_compareUnsigned ∈ TB := mem_tb (i := 380) (by decide +kernel) rfl
theorem tl_TS_209 : Cond.methodLink "TwoSlots" 209 y_TS_isRevoked ∈ TB := mem_tb (i := 368) (by decide +kernel) rfl
theorem tv_TS_isRevoked : Cond.instanceMethod y_TS_isRevoked ∈ TB := mem_tb (i := 370) (by decide +kernel) rfl
theorem tx_TS_isRevoked : Cond.selects "TwoSlots" y_TS_isRevoked y_TS_isRevoked ∈ TB := mem_tb (i := 7) (by decide +kernel) rfl
theorem tl_TS_260 : Cond.methodLink "TwoSlots" 260 y_HD_isSealedWith ∈ TB := mem_tb (i := 364) (by decide +kernel) rfl
theorem tv_HD_isSealedWith : Cond.instanceMethod y_HD_isSealedWith ∈ TB := mem_tb (i := 365) (by decide +kernel) rfl
theorem tx_HD_isSealedWith : Cond.selects "TwoSlots$Header" y_HD_isSealedWith y_HD_isSealedWith ∈ TB := mem_tb (i := 366) (by decide +kernel) rfl
theorem tl_TS_99 : Cond.methodLink "TwoSlots" 99 y_TS_keyNumber ∈ TB := mem_tb (i := 207) (by decide +kernel) rfl
theorem tv_TS_keyNumber : Cond.instanceMethod y_TS_keyNumber ∈ TB := mem_tb (i := 209) (by decide +kernel) rfl
theorem tx_TS_keyNumber : Cond.selects "TwoSlots" y_TS_keyNumber y_TS_keyNumber ∈ TB := mem_tb (i := 1) (by decide +kernel) rfl
theorem tl_TS_207 : Cond.methodLink "TwoSlots" 207 y_HD_key ∈ TB := mem_tb (i := 363) (by decide +kernel) rfl
theorem tl_TS_257 : Cond.methodLink "TwoSlots" 257 y_HD_hasForm ∈ TB := mem_tb (i := 344) (by decide +kernel) rfl
theorem tv_HD_hasForm : Cond.instanceMethod y_HD_hasForm ∈ TB := mem_tb (i := 345) (by decide +kernel) rfl
theorem tx_HD_hasForm : Cond.selects "TwoSlots$Header" y_HD_hasForm y_HD_hasForm ∈ TB := mem_tb (i := 346) (by decide +kernel) rfl
theorem tl_TS_113 : Cond.methodLink "TwoSlots" 113 y_TS_copySector ∈ TB := mem_tb (i := 223) (by decide +kernel) rfl
theorem ts_TS_copySector : Cond.static y_TS_copySector ∈ TB := mem_tb (i := 224) (by decide +kernel) rfl
theorem tl_TS_274 : Cond.methodLink "TwoSlots" 274 y_TS_digest ∈ TB := mem_tb (i := 194) (by decide +kernel) rfl
theorem tl_TS_271 : Cond.methodLink "TwoSlots" 271 y_TS_withoutSign ∈ TB := mem_tb (i := 190) (by decide +kernel) rfl
theorem tl_TS_84 : Cond.methodLink "TwoSlots" 84 y_TS_bodyStart ∈ TB := mem_tb (i := 177) (by decide +kernel) rfl
theorem ts_TS_bodyStart : Cond.static y_TS_bodyStart ∈ TB := mem_tb (i := 178) (by decide +kernel) rfl
theorem tl_TS_182 : Cond.methodLink "TwoSlots" 182 y_HD_bodyDigest ∈ TB := mem_tb (i := 419) (by decide +kernel) rfl
theorem tv_HD_bodyDigest : Cond.instanceMethod y_HD_bodyDigest ∈ TB := mem_tb (i := 420) (by decide +kernel) rfl
theorem tx_HD_bodyDigest : Cond.selects "TwoSlots$Header" y_HD_bodyDigest y_HD_bodyDigest ∈ TB := mem_tb (i := 421) (by decide +kernel) rfl
theorem tl_TS_95 : Cond.methodLink "TwoSlots" 95 y_TS_bodyDigest ∈ TB := mem_tb (i := 186) (by decide +kernel) rfl
theorem tv_TS_bodyDigest : Cond.instanceMethod y_TS_bodyDigest ∈ TB := mem_tb (i := 188) (by decide +kernel) rfl
theorem tx_TS_bodyDigest : Cond.selects "TwoSlots" y_TS_bodyDigest y_TS_bodyDigest ∈ TB := mem_tb (i := 0) (by decide +kernel) rfl
theorem tl_TS_176 : Cond.methodLink "TwoSlots" 176 y_HD_size ∈ TB := mem_tb (i := 401) (by decide +kernel) rfl
theorem tl_TS_160 : Cond.methodLink "TwoSlots" 160 y_TS_isBelowCounter ∈ TB := mem_tb (i := 376) (by decide +kernel) rfl
theorem tv_TS_isBelowCounter : Cond.instanceMethod y_TS_isBelowCounter ∈ TB := mem_tb (i := 378) (by decide +kernel) rfl
theorem tx_TS_isBelowCounter : Cond.selects "TwoSlots" y_TS_isBelowCounter y_TS_isBelowCounter ∈ TB := mem_tb (i := 8) (by decide +kernel) rfl
theorem tl_TS_157 : Cond.methodLink "TwoSlots" 157 y_HD_version ∈ TB := mem_tb (i := 372) (by decide +kernel) rfl
theorem tv_HD_version : Cond.instanceMethod y_HD_version ∈ TB := mem_tb (i := 373) (by decide +kernel) rfl
theorem tx_HD_version : Cond.selects "TwoSlots$Header" y_HD_version y_HD_version ∈ TB := mem_tb (i := 374) (by decide +kernel) rfl
theorem tl_TS_154 : Cond.methodLink "TwoSlots" 154 y_TS_isSheetRight ∈ TB := mem_tb (i := 340) (by decide +kernel) rfl
theorem tv_TS_isSheetRight : Cond.instanceMethod y_TS_isSheetRight ∈ TB := mem_tb (i := 342) (by decide +kernel) rfl
theorem tx_TS_isSheetRight : Cond.selects "TwoSlots" y_TS_isSheetRight y_TS_isSheetRight ∈ TB := mem_tb (i := 5) (by decide +kernel) rfl
theorem tl_TS_195 : Cond.methodLink "TwoSlots" 195 y_TS_readHeader ∈ TB := mem_tb (i := 454) (by decide +kernel) rfl
theorem tv_TS_readHeader : Cond.instanceMethod y_TS_readHeader ∈ TB := mem_tb (i := 456) (by decide +kernel) rfl
theorem tx_TS_readHeader : Cond.selects "TwoSlots" y_TS_readHeader y_TS_readHeader ∈ TB := mem_tb (i := 17) (by decide +kernel) rfl
theorem tl_TS_185 : Cond.methodLink "TwoSlots" 185 y_TS_dropOffer ∈ TB := mem_tb (i := 397) (by decide +kernel) rfl
theorem tv_TS_dropOffer : Cond.instanceMethod y_TS_dropOffer ∈ TB := mem_tb (i := 399) (by decide +kernel) rfl
theorem tx_TS_dropOffer : Cond.selects "TwoSlots" y_TS_dropOffer y_TS_dropOffer ∈ TB := mem_tb (i := 11) (by decide +kernel) rfl
theorem tl_TS_167 : Cond.methodLink "TwoSlots" 167 y_TS_otherThan ∈ TB := mem_tb (i := 381) (by decide +kernel) rfl
theorem tl_TS_173 : Cond.methodLink "TwoSlots" 173 y_TS_lose ∈ TB := mem_tb (i := 393) (by decide +kernel) rfl
theorem tv_TS_lose : Cond.instanceMethod y_TS_lose ∈ TB := mem_tb (i := 395) (by decide +kernel) rfl
theorem tx_TS_lose : Cond.selects "TwoSlots" y_TS_lose y_TS_lose ∈ TB := mem_tb (i := 10) (by decide +kernel) rfl
theorem tl_TS_254 : Cond.methodLink "TwoSlots" 254 y_LG_appendActive ∈ TB := mem_tb (i := 466) (by decide +kernel) rfl
theorem tv_LG_appendActive : Cond.instanceMethod y_LG_appendActive ∈ TB := mem_tb (i := 467) (by decide +kernel) rfl
theorem tx_LG_appendActive : Cond.selects "TwoSlots$Log" y_LG_appendActive y_LG_appendActive ∈ TB := mem_tb (i := 468) (by decide +kernel) rfl
theorem tl_TS_230 : Cond.methodLink "TwoSlots" 230 y_TS_isGood ∈ TB := mem_tb (i := 450) (by decide +kernel) rfl
theorem tv_TS_isGood : Cond.instanceMethod y_TS_isGood ∈ TB := mem_tb (i := 452) (by decide +kernel) rfl
theorem tx_TS_isGood : Cond.selects "TwoSlots" y_TS_isGood y_TS_isGood ∈ TB := mem_tb (i := 16) (by decide +kernel) rfl
theorem tl_TS_188 : Cond.methodLink "TwoSlots" 188 y_LG_appendTrying ∈ TB := mem_tb (i := 423) (by decide +kernel) rfl
theorem tv_LG_appendTrying : Cond.instanceMethod y_LG_appendTrying ∈ TB := mem_tb (i := 424) (by decide +kernel) rfl
theorem tx_LG_appendTrying : Cond.selects "TwoSlots$Log" y_LG_appendTrying y_LG_appendTrying ∈ TB := mem_tb (i := 425) (by decide +kernel) rfl
theorem tl_TS_248 : Cond.methodLink "TwoSlots" 248 y_TS_runOnTrial ∈ TB := mem_tb (i := 458) (by decide +kernel) rfl
theorem tv_TS_runOnTrial : Cond.instanceMethod y_TS_runOnTrial ∈ TB := mem_tb (i := 460) (by decide +kernel) rfl
theorem tx_TS_runOnTrial : Cond.selects "TwoSlots" y_TS_runOnTrial y_TS_runOnTrial ∈ TB := mem_tb (i := 18) (by decide +kernel) rfl
theorem tl_TS_251 : Cond.methodLink "TwoSlots" 251 y_TS_runActive ∈ TB := mem_tb (i := 462) (by decide +kernel) rfl
theorem tv_TS_runActive : Cond.instanceMethod y_TS_runActive ∈ TB := mem_tb (i := 464) (by decide +kernel) rfl
theorem tx_TS_runActive : Cond.selects "TwoSlots" y_TS_runActive y_TS_runActive ∈ TB := mem_tb (i := 19) (by decide +kernel) rfl
theorem tl_TS_103 : Cond.methodLink "TwoSlots" 103 y_HD_compose ∈ TB := mem_tb (i := 212) (by decide +kernel) rfl
theorem tv_HD_compose : Cond.instanceMethod y_HD_compose ∈ TB := mem_tb (i := 213) (by decide +kernel) rfl
theorem tx_HD_compose : Cond.selects "TwoSlots$Header" y_HD_compose y_HD_compose ∈ TB := mem_tb (i := 214) (by decide +kernel) rfl
theorem tl_TS_132 : Cond.methodLink "TwoSlots" 132 y_MK_bodyDigest ∈ TB := mem_tb (i := 316) (by decide +kernel) rfl
theorem tv_MK_bodyDigest : Cond.instanceMethod y_MK_bodyDigest ∈ TB := mem_tb (i := 317) (by decide +kernel) rfl
theorem tx_MK_bodyDigest : Cond.selects "TwoSlots$Maker" y_MK_bodyDigest y_MK_bodyDigest ∈ TB := mem_tb (i := 318) (by decide +kernel) rfl
theorem tl_TS_135 : Cond.methodLink "TwoSlots" 135 y_MK_layBlock ∈ TB := mem_tb (i := 327) (by decide +kernel) rfl
theorem tl_TS_170 : Cond.methodLink "TwoSlots" 170 y_FL_erase ∈ TB := mem_tb (i := 384) (by decide +kernel) rfl
theorem tl_TS_147 : Cond.methodLink "TwoSlots" 147 y_TS_runsForGood ∈ TB := mem_tb (i := 336) (by decide +kernel) rfl
theorem tv_TS_runsForGood : Cond.instanceMethod y_TS_runsForGood ∈ TB := mem_tb (i := 338) (by decide +kernel) rfl
theorem tx_TS_runsForGood : Cond.selects "TwoSlots" y_TS_runsForGood y_TS_runsForGood ∈ TB := mem_tb (i := 4) (by decide +kernel) rfl
theorem tl_TS_178 : Cond.methodLink "TwoSlots" 178 y_FL_programSector ∈ TB := mem_tb (i := 406) (by decide +kernel) rfl
theorem tv_FL_programSector : Cond.instanceMethod y_FL_programSector ∈ TB := mem_tb (i := 407) (by decide +kernel) rfl
theorem tx_FL_programSector : Cond.selects "TwoSlots$Flash" y_FL_programSector y_FL_programSector ∈ TB := mem_tb (i := 408) (by decide +kernel) rfl
theorem tl_TS_192 : Cond.methodLink "TwoSlots" 192 y_TS_bootUp ∈ TB := mem_tb (i := 446) (by decide +kernel) rfl
theorem tv_TS_bootUp : Cond.instanceMethod y_TS_bootUp ∈ TB := mem_tb (i := 448) (by decide +kernel) rfl
theorem tx_TS_bootUp : Cond.selects "TwoSlots" y_TS_bootUp y_TS_bootUp ∈ TB := mem_tb (i := 15) (by decide +kernel) rfl
theorem tl_TS_201 : Cond.methodLink "TwoSlots" 201 y_LG_appendConfirmed ∈ TB := mem_tb (i := 474) (by decide +kernel) rfl
theorem tv_LG_appendConfirmed : Cond.instanceMethod y_LG_appendConfirmed ∈ TB := mem_tb (i := 475) (by decide +kernel) rfl
theorem tx_LG_appendConfirmed : Cond.selects "TwoSlots$Log" y_LG_appendConfirmed y_LG_appendConfirmed ∈ TB := mem_tb (i := 476) (by decide +kernel) rfl
theorem tl_TS_215 : Cond.methodLink "TwoSlots" 215 y_LG_appendRevoked ∈ TB := mem_tb (i := 486) (by decide +kernel) rfl
theorem tv_LG_appendRevoked : Cond.instanceMethod y_LG_appendRevoked ∈ TB := mem_tb (i := 487) (by decide +kernel) rfl
theorem tx_LG_appendRevoked : Cond.selects "TwoSlots$Log" y_LG_appendRevoked y_LG_appendRevoked ∈ TB := mem_tb (i := 488) (by decide +kernel) rfl
theorem tl_TS_224 : Cond.methodLink "TwoSlots" 224 y_TS_isInFlash ∈ TB := mem_tb (i := 502) (by decide +kernel) rfl
theorem ts_TS_isInFlash : Cond.static y_TS_isInFlash ∈ TB := mem_tb (i := 503) (by decide +kernel) rfl
theorem tl_TS_227 : Cond.methodLink "TwoSlots" 227 y_LG_look ∈ TB := mem_tb (i := 505) (by decide +kernel) rfl
def FT_JM : Nat → Option (Nat × Nat × Nat) := mm_tb []
theorem ft_JM : ∀ idx q, FT_JM idx = some q → mm_fSt CL TB NW "java/lang/Math" idx q := mm_tb_e (fun _ h => absurd h List.not_mem_nil)
def CI_JM : Nat → Option Int32 := mm_tb []
theorem ci_JM : ∀ idx v, CI_JM idx = some v → Cond.constant "java/lang/Math" idx v ∈ TB := mm_tb_e (fun _ h => absurd h List.not_mem_nil)
def CJ_JM : Nat → Option Int64 := mm_tb []
theorem cj_JM : ∀ idx v, CJ_JM idx = some v → Cond.constantLong "java/lang/Math" idx v ∈ TB := mm_tb_e (fun _ h => absurd h List.not_mem_nil)
def FT_JL : Nat → Option (Nat × Nat × Nat) := mm_tb []
theorem ft_JL : ∀ idx q, FT_JL idx = some q → mm_fSt CL TB NW "java/lang/Long" idx q := mm_tb_e (fun _ h => absurd h List.not_mem_nil)
def CI_JL : Nat → Option Int32 := mm_tb []
theorem ci_JL : ∀ idx v, CI_JL idx = some v → Cond.constant "java/lang/Long" idx v ∈ TB := mm_tb_e (fun _ h => absurd h List.not_mem_nil)
def CJ_JL : Nat → Option Int64 := mm_tb []
theorem cj_JL : ∀ idx v, CJ_JL idx = some v → Cond.constantLong "java/lang/Long" idx v ∈ TB := mm_tb_e (fun _ h => absurd h List.not_mem_nil)
def FT_JI : Nat → Option (Nat × Nat × Nat) := mm_tb []
theorem ft_JI : ∀ idx q, FT_JI idx = some q → mm_fSt CL TB NW "java/lang/Integer" idx q := mm_tb_e (fun _ h => absurd h List.not_mem_nil)
def CI_JI : Nat → Option Int32 := mm_tb [(127, (-2147483648 : Int32))]
theorem ci_JI : ∀ idx v, CI_JI idx = some v → Cond.constant "java/lang/Integer" idx v ∈ TB := mm_tb_e (List.forall_mem_cons.mpr ⟨tci_JI_127, fun _ h => absurd h List.not_mem_nil⟩)
def CJ_JI : Nat → Option Int64 := mm_tb []
theorem cj_JI : ∀ idx v, CJ_JI idx = some v → Cond.constantLong "java/lang/Integer" idx v ∈ TB := mm_tb_e (fun _ h => absurd h List.not_mem_nil)
def FT_JA : Nat → Option (Nat × Nat × Nat) := mm_tb []
theorem ft_JA : ∀ idx q, FT_JA idx = some q → mm_fSt CL TB NW "java/util/Arrays" idx q := mm_tb_e (fun _ h => absurd h List.not_mem_nil)
def CI_JA : Nat → Option Int32 := mm_tb []
theorem ci_JA : ∀ idx v, CI_JA idx = some v → Cond.constant "java/util/Arrays" idx v ∈ TB := mm_tb_e (fun _ h => absurd h List.not_mem_nil)
def CJ_JA : Nat → Option Int64 := mm_tb []
theorem cj_JA : ∀ idx v, CJ_JA idx = some v → Cond.constantLong "java/util/Arrays" idx v ∈ TB := mm_tb_e (fun _ h => absurd h List.not_mem_nil)
def FT_TS : Nat → Option (Nat × Nat × Nat) := mm_tb [(10, 0, 1, 3), (21, 0, 2, 3), (28, 0, 3, 3), (32, 0, 4, 3), (36, 0, 5, 0), (43, 0, 6, 3), (47, 0, 7, 3), (50, 0, 8, 0), (53, 0, 9, 0), (56, 0, 10, 0), (59, 0, 11, 0), (62, 0, 12, 0), (65, 0, 13, 0), (68, 0, 14, 0), (71, 0, 15, 0), (74, 0, 0, 3), (88, 1, 0, 3), (107, 4, 0, 3), (121, 3, 0, 0), (124, 3, 1, 0), (127, 3, 2, 0), (129, 3, 3, 0), (143, 1, 3, 1), (151, 2, 3, 0), (164, 2, 5, 0), (198, 2, 9, 0), (204, 2, 6, 0), (212, 2, 8, 0), (218, 1, 1, 0), (221, 1, 2, 0), (233, 2, 4, 0), (236, 2, 7, 0), (239, 1, 4, 0), (242, 1, 5, 0), (245, 2, 2, 0)]
theorem ft_TS : ∀ idx q, FT_TS idx = some q → mm_fSt CL TB NW "TwoSlots" idx q := mm_tb_e (List.forall_mem_cons.mpr ⟨mm_fst_i t_TS rfl (by decide) ww_TS tt_TS nn_TS (Or.inl tf_TS_10) (fun h => absurd rfl h), List.forall_mem_cons.mpr ⟨mm_fst_i t_TS rfl (by decide) ww_TS tt_TS nn_TS (Or.inl tf_TS_21) (fun h => absurd rfl h), List.forall_mem_cons.mpr ⟨mm_fst_i t_TS rfl (by decide) ww_TS tt_TS nn_TS (Or.inl tf_TS_28) (fun h => absurd rfl h), List.forall_mem_cons.mpr ⟨mm_fst_i t_TS rfl (by decide) ww_TS tt_TS nn_TS (Or.inl tf_TS_32) (fun h => absurd rfl h), List.forall_mem_cons.mpr ⟨mm_fst_i t_TS rfl (by decide) ww_TS tt_TS nn_TS (Or.inl tf_TS_36) (fun _ => ⟨rfl, by decide +kernel⟩), List.forall_mem_cons.mpr ⟨mm_fst_i t_TS rfl (by decide) ww_TS tt_TS nn_TS (Or.inl tf_TS_43) (fun h => absurd rfl h), List.forall_mem_cons.mpr ⟨mm_fst_i t_TS rfl (by decide) ww_TS tt_TS nn_TS (Or.inl tf_TS_47) (fun h => absurd rfl h), List.forall_mem_cons.mpr ⟨mm_fst_i t_TS rfl (by decide) ww_TS tt_TS nn_TS (Or.inl tf_TS_50) (fun _ => ⟨rfl, by decide +kernel⟩), List.forall_mem_cons.mpr ⟨mm_fst_i t_TS rfl (by decide) ww_TS tt_TS nn_TS (Or.inl tf_TS_53) (fun _ => ⟨rfl, by decide +kernel⟩), List.forall_mem_cons.mpr ⟨mm_fst_i t_TS rfl (by decide) ww_TS tt_TS nn_TS (Or.inl tf_TS_56) (fun _ => ⟨rfl, by decide +kernel⟩), List.forall_mem_cons.mpr ⟨mm_fst_i t_TS rfl (by decide) ww_TS tt_TS nn_TS (Or.inl tf_TS_59) (fun _ => ⟨rfl, by decide +kernel⟩), List.forall_mem_cons.mpr ⟨mm_fst_i t_TS rfl (by decide) ww_TS tt_TS nn_TS (Or.inl tf_TS_62) (fun _ => ⟨rfl, by decide +kernel⟩), List.forall_mem_cons.mpr ⟨mm_fst_i t_TS rfl (by decide) ww_TS tt_TS nn_TS (Or.inl tf_TS_65) (fun _ => ⟨rfl, by decide +kernel⟩), List.forall_mem_cons.mpr ⟨mm_fst_i t_TS rfl (by decide) ww_TS tt_TS nn_TS (Or.inl tf_TS_68) (fun _ => ⟨rfl, by decide +kernel⟩), List.forall_mem_cons.mpr ⟨mm_fst_i t_TS rfl (by decide) ww_TS tt_TS nn_TS (Or.inl tf_TS_71) (fun _ => ⟨rfl, by decide +kernel⟩), List.forall_mem_cons.mpr ⟨mm_fst_i t_TS rfl (by decide) ww_TS tt_TS nn_TS (Or.inl tf_TS_74) (fun h => absurd rfl h), List.forall_mem_cons.mpr ⟨mm_fst_i t_FL rfl (by decide) ww_FL tt_FL nn_FL (Or.inr ⟨_, tf_TS_88⟩) (fun h => absurd rfl h), List.forall_mem_cons.mpr ⟨mm_fst_i t_HD rfl (by decide) ww_HD tt_HD nn_HD (Or.inr ⟨_, tf_TS_107⟩) (fun h => absurd rfl h), List.forall_mem_cons.mpr ⟨mm_fst_i t_MK rfl (by decide) ww_MK tt_MK nn_MK (Or.inr ⟨_, tf_TS_121⟩) (fun _ => ⟨rfl, by decide +kernel⟩), List.forall_mem_cons.mpr ⟨mm_fst_i t_MK rfl (by decide) ww_MK tt_MK nn_MK (Or.inr ⟨_, tf_TS_124⟩) (fun _ => ⟨rfl, by decide +kernel⟩), List.forall_mem_cons.mpr ⟨mm_fst_i t_MK rfl (by decide) ww_MK tt_MK nn_MK (Or.inr ⟨_, tf_TS_127⟩) (fun _ => ⟨rfl, by decide +kernel⟩), List.forall_mem_cons.mpr ⟨mm_fst_i t_MK rfl (by decide) ww_MK tt_MK nn_MK (Or.inr ⟨_, tf_TS_129⟩) (fun _ => ⟨rfl, by decide +kernel⟩), List.forall_mem_cons.mpr ⟨mm_fst_i t_FL rfl (by decide) ww_FL tt_FL nn_FL (Or.inr ⟨_, tf_TS_143⟩) (fun _ => ⟨rfl, by decide +kernel⟩), List.forall_mem_cons.mpr ⟨mm_fst_i t_LG rfl (by decide) ww_LG tt_LG nn_LG (Or.inr ⟨_, tf_TS_151⟩) (fun _ => ⟨rfl, by decide +kernel⟩), List.forall_mem_cons.mpr ⟨mm_fst_i t_LG rfl (by decide) ww_LG tt_LG nn_LG (Or.inr ⟨_, tf_TS_164⟩) (fun _ => ⟨rfl, by decide +kernel⟩), List.forall_mem_cons.mpr ⟨mm_fst_i t_LG rfl (by decide) ww_LG tt_LG nn_LG (Or.inr ⟨_, tf_TS_198⟩) (fun _ => ⟨rfl, by decide +kernel⟩), List.forall_mem_cons.mpr ⟨mm_fst_i t_LG rfl (by decide) ww_LG tt_LG nn_LG (Or.inr ⟨_, tf_TS_204⟩) (fun _ => ⟨rfl, by decide +kernel⟩), List.forall_mem_cons.mpr ⟨mm_fst_i t_LG rfl (by decide) ww_LG tt_LG nn_LG (Or.inr ⟨_, tf_TS_212⟩) (fun _ => ⟨rfl, by decide +kernel⟩), List.forall_mem_cons.mpr ⟨mm_fst_i t_FL rfl (by decide) ww_FL tt_FL nn_FL (Or.inr ⟨_, tf_TS_218⟩) (fun _ => ⟨rfl, by decide +kernel⟩), List.forall_mem_cons.mpr ⟨mm_fst_i t_FL rfl (by decide) ww_FL tt_FL nn_FL (Or.inr ⟨_, tf_TS_221⟩) (fun _ => ⟨rfl, by decide +kernel⟩), List.forall_mem_cons.mpr ⟨mm_fst_i t_LG rfl (by decide) ww_LG tt_LG nn_LG (Or.inr ⟨_, tf_TS_233⟩) (fun _ => ⟨rfl, by decide +kernel⟩), List.forall_mem_cons.mpr ⟨mm_fst_i t_LG rfl (by decide) ww_LG tt_LG nn_LG (Or.inr ⟨_, tf_TS_236⟩) (fun _ => ⟨rfl, by decide +kernel⟩), List.forall_mem_cons.mpr ⟨mm_fst_i t_FL rfl (by decide) ww_FL tt_FL nn_FL (Or.inr ⟨_, tf_TS_239⟩) (fun _ => ⟨rfl, by decide +kernel⟩), List.forall_mem_cons.mpr ⟨mm_fst_i t_FL rfl (by decide) ww_FL tt_FL nn_FL (Or.inr ⟨_, tf_TS_242⟩) (fun _ => ⟨rfl, by decide +kernel⟩), List.forall_mem_cons.mpr ⟨mm_fst_i t_LG rfl (by decide) ww_LG tt_LG nn_LG (Or.inr ⟨_, tf_TS_245⟩) (fun _ => ⟨rfl, by decide +kernel⟩), fun _ h => absurd h List.not_mem_nil⟩⟩⟩⟩⟩⟩⟩⟩⟩⟩⟩⟩⟩⟩⟩⟩⟩⟩⟩⟩⟩⟩⟩⟩⟩⟩⟩⟩⟩⟩⟩⟩⟩⟩⟩)
def CI_TS : Nat → Option Int32 := mm_tb []
theorem ci_TS : ∀ idx v, CI_TS idx = some v → Cond.constant "TwoSlots" idx v ∈ TB := mm_tb_e (fun _ h => absurd h List.not_mem_nil)
def CJ_TS : Nat → Option Int64 := mm_tb [(269, (1099511628211 : Int64)), (278, (4294967295 : Int64)), (292, (-7046029254386353131 : Int64))]
theorem cj_TS : ∀ idx v, CJ_TS idx = some v → Cond.constantLong "TwoSlots" idx v ∈ TB := mm_tb_e (List.forall_mem_cons.mpr ⟨tcj_TS_269, List.forall_mem_cons.mpr ⟨tcj_TS_278, List.forall_mem_cons.mpr ⟨tcj_TS_292, fun _ h => absurd h List.not_mem_nil⟩⟩⟩)
def FT_FL : Nat → Option (Nat × Nat × Nat) := mm_tb [(9, 1, 0, 3), (15, 1, 1, 0), (19, 1, 2, 0), (22, 1, 3, 1), (26, 1, 4, 0), (29, 1, 5, 0)]
theorem ft_FL : ∀ idx q, FT_FL idx = some q → mm_fSt CL TB NW "TwoSlots$Flash" idx q := mm_tb_e (List.forall_mem_cons.mpr ⟨mm_fst_i t_FL rfl (by decide) ww_FL tt_FL nn_FL (Or.inl tf_FL_9) (fun h => absurd rfl h), List.forall_mem_cons.mpr ⟨mm_fst_i t_FL rfl (by decide) ww_FL tt_FL nn_FL (Or.inl tf_FL_15) (fun _ => ⟨rfl, by decide +kernel⟩), List.forall_mem_cons.mpr ⟨mm_fst_i t_FL rfl (by decide) ww_FL tt_FL nn_FL (Or.inl tf_FL_19) (fun _ => ⟨rfl, by decide +kernel⟩), List.forall_mem_cons.mpr ⟨mm_fst_i t_FL rfl (by decide) ww_FL tt_FL nn_FL (Or.inl tf_FL_22) (fun _ => ⟨rfl, by decide +kernel⟩), List.forall_mem_cons.mpr ⟨mm_fst_i t_FL rfl (by decide) ww_FL tt_FL nn_FL (Or.inl tf_FL_26) (fun _ => ⟨rfl, by decide +kernel⟩), List.forall_mem_cons.mpr ⟨mm_fst_i t_FL rfl (by decide) ww_FL tt_FL nn_FL (Or.inl tf_FL_29) (fun _ => ⟨rfl, by decide +kernel⟩), fun _ h => absurd h List.not_mem_nil⟩⟩⟩⟩⟩⟩)
def CI_FL : Nat → Option Int32 := mm_tb []
theorem ci_FL : ∀ idx v, CI_FL idx = some v → Cond.constant "TwoSlots$Flash" idx v ∈ TB := mm_tb_e (fun _ h => absurd h List.not_mem_nil)
def CJ_FL : Nat → Option Int64 := mm_tb []
theorem cj_FL : ∀ idx v, CJ_FL idx = some v → Cond.constantLong "TwoSlots$Flash" idx v ∈ TB := mm_tb_e (fun _ h => absurd h List.not_mem_nil)
def FT_HD : Nat → Option (Nat × Nat × Nat) := mm_tb [(9, 4, 0, 3)]
theorem ft_HD : ∀ idx q, FT_HD idx = some q → mm_fSt CL TB NW "TwoSlots$Header" idx q := mm_tb_e (List.forall_mem_cons.mpr ⟨mm_fst_i t_HD rfl (by decide) ww_HD tt_HD nn_HD (Or.inl tf_HD_9) (fun h => absurd rfl h), fun _ h => absurd h List.not_mem_nil⟩)
def CI_HD : Nat → Option Int32 := mm_tb [(43, (1415008083 : Int32))]
theorem ci_HD : ∀ idx v, CI_HD idx = some v → Cond.constant "TwoSlots$Header" idx v ∈ TB := mm_tb_e (List.forall_mem_cons.mpr ⟨tci_HD_43, fun _ h => absurd h List.not_mem_nil⟩)
def CJ_HD : Nat → Option Int64 := mm_tb [(21, (1415008083 : Int64))]
theorem cj_HD : ∀ idx v, CJ_HD idx = some v → Cond.constantLong "TwoSlots$Header" idx v ∈ TB := mm_tb_e (List.forall_mem_cons.mpr ⟨tcj_HD_21, fun _ h => absurd h List.not_mem_nil⟩)
def FT_MK : Nat → Option (Nat × Nat × Nat) := mm_tb [(9, 3, 0, 0), (15, 3, 1, 0), (21, 3, 3, 0)]
theorem ft_MK : ∀ idx q, FT_MK idx = some q → mm_fSt CL TB NW "TwoSlots$Maker" idx q := mm_tb_e (List.forall_mem_cons.mpr ⟨mm_fst_i t_MK rfl (by decide) ww_MK tt_MK nn_MK (Or.inl tf_MK_9) (fun _ => ⟨rfl, by decide +kernel⟩), List.forall_mem_cons.mpr ⟨mm_fst_i t_MK rfl (by decide) ww_MK tt_MK nn_MK (Or.inl tf_MK_15) (fun _ => ⟨rfl, by decide +kernel⟩), List.forall_mem_cons.mpr ⟨mm_fst_i t_MK rfl (by decide) ww_MK tt_MK nn_MK (Or.inl tf_MK_21) (fun _ => ⟨rfl, by decide +kernel⟩), fun _ h => absurd h List.not_mem_nil⟩⟩⟩)
def CI_MK : Nat → Option Int32 := mm_tb []
theorem ci_MK : ∀ idx v, CI_MK idx = some v → Cond.constant "TwoSlots$Maker" idx v ∈ TB := mm_tb_e (fun _ h => absurd h List.not_mem_nil)
def CJ_MK : Nat → Option Int64 := mm_tb []
theorem cj_MK : ∀ idx v, CJ_MK idx = some v → Cond.constantLong "TwoSlots$Maker" idx v ∈ TB := mm_tb_e (fun _ h => absurd h List.not_mem_nil)
def FT_LG : Nat → Option (Nat × Nat × Nat) := mm_tb [(9, 2, 1, 3), (15, 2, 2, 0), (19, 2, 3, 0), (22, 2, 4, 0), (25, 2, 5, 0), (28, 2, 6, 0), (31, 2, 7, 0), (34, 2, 8, 0), (37, 2, 9, 0), (40, 2, 0, 3), (52, 1, 0, 3)]
theorem ft_LG : ∀ idx q, FT_LG idx = some q → mm_fSt CL TB NW "TwoSlots$Log" idx q := mm_tb_e (List.forall_mem_cons.mpr ⟨mm_fst_i t_LG rfl (by decide) ww_LG tt_LG nn_LG (Or.inl tf_LG_9) (fun h => absurd rfl h), List.forall_mem_cons.mpr ⟨mm_fst_i t_LG rfl (by decide) ww_LG tt_LG nn_LG (Or.inl tf_LG_15) (fun _ => ⟨rfl, by decide +kernel⟩), List.forall_mem_cons.mpr ⟨mm_fst_i t_LG rfl (by decide) ww_LG tt_LG nn_LG (Or.inl tf_LG_19) (fun _ => ⟨rfl, by decide +kernel⟩), List.forall_mem_cons.mpr ⟨mm_fst_i t_LG rfl (by decide) ww_LG tt_LG nn_LG (Or.inl tf_LG_22) (fun _ => ⟨rfl, by decide +kernel⟩), List.forall_mem_cons.mpr ⟨mm_fst_i t_LG rfl (by decide) ww_LG tt_LG nn_LG (Or.inl tf_LG_25) (fun _ => ⟨rfl, by decide +kernel⟩), List.forall_mem_cons.mpr ⟨mm_fst_i t_LG rfl (by decide) ww_LG tt_LG nn_LG (Or.inl tf_LG_28) (fun _ => ⟨rfl, by decide +kernel⟩), List.forall_mem_cons.mpr ⟨mm_fst_i t_LG rfl (by decide) ww_LG tt_LG nn_LG (Or.inl tf_LG_31) (fun _ => ⟨rfl, by decide +kernel⟩), List.forall_mem_cons.mpr ⟨mm_fst_i t_LG rfl (by decide) ww_LG tt_LG nn_LG (Or.inl tf_LG_34) (fun _ => ⟨rfl, by decide +kernel⟩), List.forall_mem_cons.mpr ⟨mm_fst_i t_LG rfl (by decide) ww_LG tt_LG nn_LG (Or.inl tf_LG_37) (fun _ => ⟨rfl, by decide +kernel⟩), List.forall_mem_cons.mpr ⟨mm_fst_i t_LG rfl (by decide) ww_LG tt_LG nn_LG (Or.inl tf_LG_40) (fun h => absurd rfl h), List.forall_mem_cons.mpr ⟨mm_fst_i t_FL rfl (by decide) ww_FL tt_FL nn_FL (Or.inr ⟨_, tf_LG_52⟩) (fun h => absurd rfl h), fun _ h => absurd h List.not_mem_nil⟩⟩⟩⟩⟩⟩⟩⟩⟩⟩⟩)
def CI_LG : Nat → Option Int32 := mm_tb []
theorem ci_LG : ∀ idx v, CI_LG idx = some v → Cond.constant "TwoSlots$Log" idx v ∈ TB := mm_tb_e (fun _ h => absurd h List.not_mem_nil)
def CJ_LG : Nat → Option Int64 := mm_tb []
theorem cj_LG : ∀ idx v, CJ_LG idx = some v → Cond.constantLong "TwoSlots$Log" idx v ∈ TB := mm_tb_e (fun _ h => absurd h List.not_mem_nil)
