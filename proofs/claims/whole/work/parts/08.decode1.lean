theorem d_JM_min_0 : decode b_JM_min 0 = .ok (.iload_n 0, 1) := by decide +kernel
theorem d_JM_min_1 : decode b_JM_min 1 = .ok (.iload_n 1, 1) := by decide +kernel
theorem d_JM_min_2 : decode b_JM_min 2 = .ok (.if_icmp .gt 7, 3) := by decide +kernel
theorem d_JM_min_5 : decode b_JM_min 5 = .ok (.iload_n 0, 1) := by decide +kernel
theorem d_JM_min_6 : decode b_JM_min 6 = .ok (.goto 4, 3) := by decide +kernel
theorem d_JM_min_9 : decode b_JM_min 9 = .ok (.iload_n 1, 1) := by decide +kernel
theorem d_JM_min_10 : decode b_JM_min 10 = .ok (.ireturn, 1) := by decide +kernel
theorem d_JM_max_0 : decode b_JM_max 0 = .ok (.iload_n 0, 1) := by decide +kernel
theorem d_JM_max_1 : decode b_JM_max 1 = .ok (.iload_n 1, 1) := by decide +kernel
theorem d_JM_max_2 : decode b_JM_max 2 = .ok (.if_icmp .lt 7, 3) := by decide +kernel
theorem d_JM_max_5 : decode b_JM_max 5 = .ok (.iload_n 0, 1) := by decide +kernel
theorem d_JM_max_6 : decode b_JM_max 6 = .ok (.goto 4, 3) := by decide +kernel
theorem d_JM_max_9 : decode b_JM_max 9 = .ok (.iload_n 1, 1) := by decide +kernel
theorem d_JM_max_10 : decode b_JM_max 10 = .ok (.ireturn, 1) := by decide +kernel
theorem d_JL_rotateLeft_0 : decode b_JL_rotateLeft 0 = .ok (.lload_n 0, 1) := by decide +kernel
theorem d_JL_rotateLeft_1 : decode b_JL_rotateLeft 1 = .ok (.iload_n 2, 1) := by decide +kernel
theorem d_JL_rotateLeft_2 : decode b_JL_rotateLeft 2 = .ok (.lshl, 1) := by decide +kernel
theorem d_JL_rotateLeft_3 : decode b_JL_rotateLeft 3 = .ok (.lload_n 0, 1) := by decide +kernel
theorem d_JL_rotateLeft_4 : decode b_JL_rotateLeft 4 = .ok (.iload_n 2, 1) := by decide +kernel
theorem d_JL_rotateLeft_5 : decode b_JL_rotateLeft 5 = .ok (.ineg, 1) := by decide +kernel
theorem d_JL_rotateLeft_6 : decode b_JL_rotateLeft 6 = .ok (.lushr, 1) := by decide +kernel
theorem d_JL_rotateLeft_7 : decode b_JL_rotateLeft 7 = .ok (.lor, 1) := by decide +kernel
theorem d_JL_rotateLeft_8 : decode b_JL_rotateLeft 8 = .ok (.lreturn, 1) := by decide +kernel
theorem d_JI_compare_0 : decode b_JI_compare 0 = .ok (.iload_n 0, 1) := by decide +kernel
theorem d_JI_compare_1 : decode b_JI_compare 1 = .ok (.iload_n 1, 1) := by decide +kernel
theorem d_JI_compare_2 : decode b_JI_compare 2 = .ok (.if_icmp .ge 7, 3) := by decide +kernel
theorem d_JI_compare_5 : decode b_JI_compare 5 = .ok (.iconst (-1), 1) := by decide +kernel
theorem d_JI_compare_6 : decode b_JI_compare 6 = .ok (.goto 13, 3) := by decide +kernel
theorem d_JI_compare_9 : decode b_JI_compare 9 = .ok (.iload_n 0, 1) := by decide +kernel
theorem d_JI_compare_10 : decode b_JI_compare 10 = .ok (.iload_n 1, 1) := by decide +kernel
theorem d_JI_compare_11 : decode b_JI_compare 11 = .ok (.if_icmp .ne 7, 3) := by decide +kernel
theorem d_JI_compare_14 : decode b_JI_compare 14 = .ok (.iconst 0, 1) := by decide +kernel
theorem d_JI_compare_15 : decode b_JI_compare 15 = .ok (.goto 4, 3) := by decide +kernel
theorem d_JI_compare_18 : decode b_JI_compare 18 = .ok (.iconst 1, 1) := by decide +kernel
theorem d_JI_compare_19 : decode b_JI_compare 19 = .ok (.ireturn, 1) := by decide +kernel
theorem d_JI_compareUnsigned_0 : decode b_JI_compareUnsigned 0 = .ok (.iload_n 0, 1) := by decide +kernel
theorem d_JI_compareUnsigned_1 : decode b_JI_compareUnsigned 1 = .ok (.ldc 127, 2) := by decide +kernel
theorem d_JI_compareUnsigned_3 : decode b_JI_compareUnsigned 3 = .ok (.iadd, 1) := by decide +kernel
theorem d_JI_compareUnsigned_4 : decode b_JI_compareUnsigned 4 = .ok (.iload_n 1, 1) := by decide +kernel
theorem d_JI_compareUnsigned_5 : decode b_JI_compareUnsigned 5 = .ok (.ldc 127, 2) := by decide +kernel
theorem d_JI_compareUnsigned_7 : decode b_JI_compareUnsigned 7 = .ok (.iadd, 1) := by decide +kernel
theorem d_JI_compareUnsigned_8 : decode b_JI_compareUnsigned 8 = .ok (.invokestatic 259, 3) := by decide +kernel
theorem d_JI_compareUnsigned_11 : decode b_JI_compareUnsigned 11 = .ok (.ireturn, 1) := by decide +kernel
theorem d_JA_fill_0 : decode b_JA_fill 0 = .ok (.iconst 0, 1) := by decide +kernel
theorem d_JA_fill_1 : decode b_JA_fill 1 = .ok (.istore_n 2, 1) := by decide +kernel
theorem d_JA_fill_2 : decode b_JA_fill 2 = .ok (.aload_n 0, 1) := by decide +kernel
theorem d_JA_fill_3 : decode b_JA_fill 3 = .ok (.arraylength, 1) := by decide +kernel
theorem d_JA_fill_4 : decode b_JA_fill 4 = .ok (.istore_n 3, 1) := by decide +kernel
theorem d_JA_fill_5 : decode b_JA_fill 5 = .ok (.iload_n 2, 1) := by decide +kernel
theorem d_JA_fill_6 : decode b_JA_fill 6 = .ok (.iload_n 3, 1) := by decide +kernel
theorem d_JA_fill_7 : decode b_JA_fill 7 = .ok (.if_icmp .ge 13, 3) := by decide +kernel
theorem d_JA_fill_10 : decode b_JA_fill 10 = .ok (.aload_n 0, 1) := by decide +kernel
theorem d_JA_fill_11 : decode b_JA_fill 11 = .ok (.iload_n 2, 1) := by decide +kernel
theorem d_JA_fill_12 : decode b_JA_fill 12 = .ok (.iload_n 1, 1) := by decide +kernel
theorem d_JA_fill_13 : decode b_JA_fill 13 = .ok (.bastore, 1) := by decide +kernel
theorem d_JA_fill_14 : decode b_JA_fill 14 = .ok (.iinc 2 1, 3) := by decide +kernel
theorem d_JA_fill_17 : decode b_JA_fill 17 = .ok (.goto (-12), 3) := by decide +kernel
theorem d_JA_fill_20 : decode b_JA_fill 20 = .ok (.return_, 1) := by decide +kernel
theorem d_TS_withoutSign_0 : decode b_TS_withoutSign 0 = .ok (.iload_n 0, 1) := by decide +kernel
theorem d_TS_withoutSign_1 : decode b_TS_withoutSign 1 = .ok (.i2l, 1) := by decide +kernel
theorem d_TS_withoutSign_2 : decode b_TS_withoutSign 2 = .ok (.ldc2_w 278, 3) := by decide +kernel
theorem d_TS_withoutSign_5 : decode b_TS_withoutSign 5 = .ok (.land, 1) := by decide +kernel
theorem d_TS_withoutSign_6 : decode b_TS_withoutSign 6 = .ok (.lreturn, 1) := by decide +kernel
theorem d_TS_otherThan_0 : decode b_TS_otherThan 0 = .ok (.iconst 1, 1) := by decide +kernel
theorem d_TS_otherThan_1 : decode b_TS_otherThan 1 = .ok (.iload_n 0, 1) := by decide +kernel
theorem d_TS_otherThan_2 : decode b_TS_otherThan 2 = .ok (.isub, 1) := by decide +kernel
theorem d_TS_otherThan_3 : decode b_TS_otherThan 3 = .ok (.ireturn, 1) := by decide +kernel
theorem d_TS_headerSector_0 : decode b_TS_headerSector 0 = .ok (.iconst 2, 1) := by decide +kernel
theorem d_TS_headerSector_1 : decode b_TS_headerSector 1 = .ok (.iload_n 0, 1) := by decide +kernel
theorem d_TS_headerSector_2 : decode b_TS_headerSector 2 = .ok (.bipush 31, 2) := by decide +kernel
theorem d_TS_headerSector_4 : decode b_TS_headerSector 4 = .ok (.imul, 1) := by decide +kernel
theorem d_TS_headerSector_5 : decode b_TS_headerSector 5 = .ok (.iadd, 1) := by decide +kernel
theorem d_TS_headerSector_6 : decode b_TS_headerSector 6 = .ok (.ireturn, 1) := by decide +kernel
theorem d_TS_bodyStart_0 : decode b_TS_bodyStart 0 = .ok (.iload_n 0, 1) := by decide +kernel
theorem d_TS_bodyStart_1 : decode b_TS_bodyStart 1 = .ok (.invokestatic 110, 3) := by decide +kernel
theorem d_TS_bodyStart_4 : decode b_TS_bodyStart 4 = .ok (.iconst 1, 1) := by decide +kernel
theorem d_TS_bodyStart_5 : decode b_TS_bodyStart 5 = .ok (.iadd, 1) := by decide +kernel
theorem d_TS_bodyStart_6 : decode b_TS_bodyStart 6 = .ok (.bipush 64, 2) := by decide +kernel
theorem d_TS_bodyStart_8 : decode b_TS_bodyStart 8 = .ok (.imul, 1) := by decide +kernel
theorem d_TS_bodyStart_9 : decode b_TS_bodyStart 9 = .ok (.ireturn, 1) := by decide +kernel
theorem d_TS_isInFlash_0 : decode b_TS_isInFlash 0 = .ok (.iload_n 0, 1) := by decide +kernel
theorem d_TS_isInFlash_1 : decode b_TS_isInFlash 1 = .ok (.ifCond .lt 23, 3) := by decide +kernel
theorem d_TS_isInFlash_4 : decode b_TS_isInFlash 4 = .ok (.iload_n 0, 1) := by decide +kernel
theorem d_TS_isInFlash_5 : decode b_TS_isInFlash 5 = .ok (.bipush 64, 2) := by decide +kernel
theorem d_TS_isInFlash_7 : decode b_TS_isInFlash 7 = .ok (.if_icmp .ge 17, 3) := by decide +kernel
theorem d_TS_isInFlash_10 : decode b_TS_isInFlash 10 = .ok (.iload_n 1, 1) := by decide +kernel
theorem d_TS_isInFlash_11 : decode b_TS_isInFlash 11 = .ok (.ifCond .lt 13, 3) := by decide +kernel
theorem d_TS_isInFlash_14 : decode b_TS_isInFlash 14 = .ok (.iload_n 1, 1) := by decide +kernel
theorem d_TS_isInFlash_15 : decode b_TS_isInFlash 15 = .ok (.bipush 64, 2) := by decide +kernel
theorem d_TS_isInFlash_17 : decode b_TS_isInFlash 17 = .ok (.if_icmp .ge 7, 3) := by decide +kernel
theorem d_TS_isInFlash_20 : decode b_TS_isInFlash 20 = .ok (.iconst 1, 1) := by decide +kernel
theorem d_TS_isInFlash_21 : decode b_TS_isInFlash 21 = .ok (.goto 4, 3) := by decide +kernel
theorem d_TS_isInFlash_24 : decode b_TS_isInFlash 24 = .ok (.iconst 0, 1) := by decide +kernel
theorem d_TS_isInFlash_25 : decode b_TS_isInFlash 25 = .ok (.ireturn, 1) := by decide +kernel
theorem d_TS_digest_0 : decode b_TS_digest 0 = .ok (.lload_n 0, 1) := by decide +kernel
theorem d_TS_digest_1 : decode b_TS_digest 1 = .ok (.lstore 5, 2) := by decide +kernel
theorem d_TS_digest_3 : decode b_TS_digest 3 = .ok (.iload 4, 2) := by decide +kernel
theorem d_TS_digest_5 : decode b_TS_digest 5 = .ok (.aload_n 2, 1) := by decide +kernel
theorem d_TS_digest_6 : decode b_TS_digest 6 = .ok (.arraylength, 1) := by decide +kernel
theorem d_TS_digest_7 : decode b_TS_digest 7 = .ok (.invokestatic 280, 3) := by decide +kernel
theorem d_TS_digest_10 : decode b_TS_digest 10 = .ok (.istore 7, 2) := by decide +kernel
theorem d_TS_digest_12 : decode b_TS_digest 12 = .ok (.iload_n 3, 1) := by decide +kernel
theorem d_TS_digest_13 : decode b_TS_digest 13 = .ok (.iconst 0, 1) := by decide +kernel
theorem d_TS_digest_14 : decode b_TS_digest 14 = .ok (.invokestatic 283, 3) := by decide +kernel
theorem d_TS_digest_17 : decode b_TS_digest 17 = .ok (.istore 8, 2) := by decide +kernel
theorem d_TS_digest_19 : decode b_TS_digest 19 = .ok (.iload 8, 2) := by decide +kernel
theorem d_TS_digest_21 : decode b_TS_digest 21 = .ok (.iload 7, 2) := by decide +kernel
theorem d_TS_digest_23 : decode b_TS_digest 23 = .ok (.if_icmp .ge 32, 3) := by decide +kernel
theorem d_TS_digest_26 : decode b_TS_digest 26 = .ok (.lload 5, 2) := by decide +kernel
theorem d_TS_digest_28 : decode b_TS_digest 28 = .ok (.aload_n 2, 1) := by decide +kernel
theorem d_TS_digest_29 : decode b_TS_digest 29 = .ok (.iload 8, 2) := by decide +kernel
theorem d_TS_digest_31 : decode b_TS_digest 31 = .ok (.baload, 1) := by decide +kernel
theorem d_TS_digest_32 : decode b_TS_digest 32 = .ok (.sipush 255, 3) := by decide +kernel
theorem d_TS_digest_35 : decode b_TS_digest 35 = .ok (.iand, 1) := by decide +kernel
theorem d_TS_digest_36 : decode b_TS_digest 36 = .ok (.i2l, 1) := by decide +kernel
theorem d_TS_digest_37 : decode b_TS_digest 37 = .ok (.lxor, 1) := by decide +kernel
theorem d_TS_digest_38 : decode b_TS_digest 38 = .ok (.bipush 13, 2) := by decide +kernel
theorem d_TS_digest_40 : decode b_TS_digest 40 = .ok (.invokestatic 286, 3) := by decide +kernel
theorem d_TS_digest_43 : decode b_TS_digest 43 = .ok (.ldc2_w 292, 3) := by decide +kernel
theorem d_TS_digest_46 : decode b_TS_digest 46 = .ok (.lmul, 1) := by decide +kernel
theorem d_TS_digest_47 : decode b_TS_digest 47 = .ok (.lstore 5, 2) := by decide +kernel
theorem d_TS_digest_49 : decode b_TS_digest 49 = .ok (.iinc 8 1, 3) := by decide +kernel
theorem d_TS_digest_52 : decode b_TS_digest 52 = .ok (.goto (-33), 3) := by decide +kernel
theorem d_TS_digest_55 : decode b_TS_digest 55 = .ok (.lload 5, 2) := by decide +kernel
theorem d_TS_digest_57 : decode b_TS_digest 57 = .ok (.lreturn, 1) := by decide +kernel
theorem d_TS_byteAt_0 : decode b_TS_byteAt 0 = .ok (.iload_n 1, 1) := by decide +kernel
theorem d_TS_byteAt_1 : decode b_TS_byteAt 1 = .ok (.ifCond .lt 19, 3) := by decide +kernel
theorem d_TS_byteAt_4 : decode b_TS_byteAt 4 = .ok (.iload_n 1, 1) := by decide +kernel
theorem d_TS_byteAt_5 : decode b_TS_byteAt 5 = .ok (.aload_n 0, 1) := by decide +kernel
theorem d_TS_byteAt_6 : decode b_TS_byteAt 6 = .ok (.arraylength, 1) := by decide +kernel
theorem d_TS_byteAt_7 : decode b_TS_byteAt 7 = .ok (.if_icmp .ge 13, 3) := by decide +kernel
theorem d_TS_byteAt_10 : decode b_TS_byteAt 10 = .ok (.aload_n 0, 1) := by decide +kernel
theorem d_TS_byteAt_11 : decode b_TS_byteAt 11 = .ok (.iload_n 1, 1) := by decide +kernel
theorem d_TS_byteAt_12 : decode b_TS_byteAt 12 = .ok (.baload, 1) := by decide +kernel
theorem d_TS_byteAt_13 : decode b_TS_byteAt 13 = .ok (.sipush 255, 3) := by decide +kernel
theorem d_TS_byteAt_16 : decode b_TS_byteAt 16 = .ok (.iand, 1) := by decide +kernel
theorem d_TS_byteAt_17 : decode b_TS_byteAt 17 = .ok (.goto 6, 3) := by decide +kernel
theorem d_TS_byteAt_20 : decode b_TS_byteAt 20 = .ok (.sipush 255, 3) := by decide +kernel
theorem d_TS_byteAt_23 : decode b_TS_byteAt 23 = .ok (.ireturn, 1) := by decide +kernel
theorem d_TS_putByte_0 : decode b_TS_putByte 0 = .ok (.iload_n 1, 1) := by decide +kernel
theorem d_TS_putByte_1 : decode b_TS_putByte 1 = .ok (.ifCond .lt 14, 3) := by decide +kernel
theorem d_TS_putByte_4 : decode b_TS_putByte 4 = .ok (.iload_n 1, 1) := by decide +kernel
theorem d_TS_putByte_5 : decode b_TS_putByte 5 = .ok (.aload_n 0, 1) := by decide +kernel
theorem d_TS_putByte_6 : decode b_TS_putByte 6 = .ok (.arraylength, 1) := by decide +kernel
theorem d_TS_putByte_7 : decode b_TS_putByte 7 = .ok (.if_icmp .ge 8, 3) := by decide +kernel
theorem d_TS_putByte_10 : decode b_TS_putByte 10 = .ok (.aload_n 0, 1) := by decide +kernel
theorem d_TS_putByte_11 : decode b_TS_putByte 11 = .ok (.iload_n 1, 1) := by decide +kernel
theorem d_TS_putByte_12 : decode b_TS_putByte 12 = .ok (.iload_n 2, 1) := by decide +kernel
theorem d_TS_putByte_13 : decode b_TS_putByte 13 = .ok (.i2b, 1) := by decide +kernel
theorem d_TS_putByte_14 : decode b_TS_putByte 14 = .ok (.bastore, 1) := by decide +kernel
theorem d_TS_putByte_15 : decode b_TS_putByte 15 = .ok (.return_, 1) := by decide +kernel
theorem d_TS_numberAt_0 : decode b_TS_numberAt 0 = .ok (.iload_n 1, 1) := by decide +kernel
theorem d_TS_numberAt_1 : decode b_TS_numberAt 1 = .ok (.ifCond .lt 11, 3) := by decide +kernel
theorem d_TS_numberAt_4 : decode b_TS_numberAt 4 = .ok (.iload_n 1, 1) := by decide +kernel
theorem d_TS_numberAt_5 : decode b_TS_numberAt 5 = .ok (.aload_n 0, 1) := by decide +kernel
theorem d_TS_numberAt_6 : decode b_TS_numberAt 6 = .ok (.arraylength, 1) := by decide +kernel
theorem d_TS_numberAt_7 : decode b_TS_numberAt 7 = .ok (.iload_n 2, 1) := by decide +kernel
theorem d_TS_numberAt_8 : decode b_TS_numberAt 8 = .ok (.isub, 1) := by decide +kernel
theorem d_TS_numberAt_9 : decode b_TS_numberAt 9 = .ok (.if_icmp .le 5, 3) := by decide +kernel
theorem d_TS_numberAt_12 : decode b_TS_numberAt 12 = .ok (.lconst 0, 1) := by decide +kernel
theorem d_TS_numberAt_13 : decode b_TS_numberAt 13 = .ok (.lreturn, 1) := by decide +kernel
theorem d_TS_numberAt_14 : decode b_TS_numberAt 14 = .ok (.lconst 0, 1) := by decide +kernel
theorem d_TS_numberAt_15 : decode b_TS_numberAt 15 = .ok (.lstore_n 3, 1) := by decide +kernel
theorem d_TS_numberAt_16 : decode b_TS_numberAt 16 = .ok (.iconst 0, 1) := by decide +kernel
theorem d_TS_numberAt_17 : decode b_TS_numberAt 17 = .ok (.istore 5, 2) := by decide +kernel
theorem d_TS_numberAt_19 : decode b_TS_numberAt 19 = .ok (.iload 5, 2) := by decide +kernel
theorem d_TS_numberAt_21 : decode b_TS_numberAt 21 = .ok (.iload_n 2, 1) := by decide +kernel
theorem d_TS_numberAt_22 : decode b_TS_numberAt 22 = .ok (.if_icmp .ge 26, 3) := by decide +kernel
theorem d_TS_numberAt_25 : decode b_TS_numberAt 25 = .ok (.lload_n 3, 1) := by decide +kernel
theorem d_TS_numberAt_26 : decode b_TS_numberAt 26 = .ok (.bipush 8, 2) := by decide +kernel
theorem d_TS_numberAt_28 : decode b_TS_numberAt 28 = .ok (.lshl, 1) := by decide +kernel
theorem d_TS_numberAt_29 : decode b_TS_numberAt 29 = .ok (.aload_n 0, 1) := by decide +kernel
theorem d_TS_numberAt_30 : decode b_TS_numberAt 30 = .ok (.iload_n 1, 1) := by decide +kernel
theorem d_TS_numberAt_31 : decode b_TS_numberAt 31 = .ok (.iload 5, 2) := by decide +kernel
theorem d_TS_numberAt_33 : decode b_TS_numberAt 33 = .ok (.iadd, 1) := by decide +kernel
theorem d_TS_numberAt_34 : decode b_TS_numberAt 34 = .ok (.baload, 1) := by decide +kernel
theorem d_TS_numberAt_35 : decode b_TS_numberAt 35 = .ok (.sipush 255, 3) := by decide +kernel
theorem d_TS_numberAt_38 : decode b_TS_numberAt 38 = .ok (.iand, 1) := by decide +kernel
theorem d_TS_numberAt_39 : decode b_TS_numberAt 39 = .ok (.i2l, 1) := by decide +kernel
theorem d_TS_numberAt_40 : decode b_TS_numberAt 40 = .ok (.lor, 1) := by decide +kernel
theorem d_TS_numberAt_41 : decode b_TS_numberAt 41 = .ok (.lstore_n 3, 1) := by decide +kernel
theorem d_TS_numberAt_42 : decode b_TS_numberAt 42 = .ok (.iinc 5 1, 3) := by decide +kernel
theorem d_TS_numberAt_45 : decode b_TS_numberAt 45 = .ok (.goto (-26), 3) := by decide +kernel
theorem d_TS_numberAt_48 : decode b_TS_numberAt 48 = .ok (.lload_n 3, 1) := by decide +kernel
theorem d_TS_numberAt_49 : decode b_TS_numberAt 49 = .ok (.lreturn, 1) := by decide +kernel
theorem d_TS_putNumber_0 : decode b_TS_putNumber 0 = .ok (.iconst 0, 1) := by decide +kernel
theorem d_TS_putNumber_1 : decode b_TS_putNumber 1 = .ok (.istore 5, 2) := by decide +kernel
theorem d_TS_putNumber_3 : decode b_TS_putNumber 3 = .ok (.iload 5, 2) := by decide +kernel
theorem d_TS_putNumber_5 : decode b_TS_putNumber 5 = .ok (.iload_n 2, 1) := by decide +kernel
theorem d_TS_putNumber_6 : decode b_TS_putNumber 6 = .ok (.if_icmp .ge 29, 3) := by decide +kernel
theorem d_TS_putNumber_9 : decode b_TS_putNumber 9 = .ok (.aload_n 0, 1) := by decide +kernel
theorem d_TS_putNumber_10 : decode b_TS_putNumber 10 = .ok (.iload_n 1, 1) := by decide +kernel
theorem d_TS_putNumber_11 : decode b_TS_putNumber 11 = .ok (.iload 5, 2) := by decide +kernel
theorem d_TS_putNumber_13 : decode b_TS_putNumber 13 = .ok (.iadd, 1) := by decide +kernel
theorem d_TS_putNumber_14 : decode b_TS_putNumber 14 = .ok (.lload_n 3, 1) := by decide +kernel
theorem d_TS_putNumber_15 : decode b_TS_putNumber 15 = .ok (.bipush 8, 2) := by decide +kernel
theorem d_TS_putNumber_17 : decode b_TS_putNumber 17 = .ok (.iload_n 2, 1) := by decide +kernel
theorem d_TS_putNumber_18 : decode b_TS_putNumber 18 = .ok (.iconst 1, 1) := by decide +kernel
theorem d_TS_putNumber_19 : decode b_TS_putNumber 19 = .ok (.isub, 1) := by decide +kernel
theorem d_TS_putNumber_20 : decode b_TS_putNumber 20 = .ok (.iload 5, 2) := by decide +kernel
theorem d_TS_putNumber_22 : decode b_TS_putNumber 22 = .ok (.isub, 1) := by decide +kernel
theorem d_TS_putNumber_23 : decode b_TS_putNumber 23 = .ok (.imul, 1) := by decide +kernel
theorem d_TS_putNumber_24 : decode b_TS_putNumber 24 = .ok (.lshr, 1) := by decide +kernel
theorem d_TS_putNumber_25 : decode b_TS_putNumber 25 = .ok (.l2i, 1) := by decide +kernel
theorem d_TS_putNumber_26 : decode b_TS_putNumber 26 = .ok (.invokestatic 91, 3) := by decide +kernel
theorem d_TS_putNumber_29 : decode b_TS_putNumber 29 = .ok (.iinc 5 1, 3) := by decide +kernel
theorem d_TS_putNumber_32 : decode b_TS_putNumber 32 = .ok (.goto (-29), 3) := by decide +kernel
theorem d_TS_putNumber_35 : decode b_TS_putNumber 35 = .ok (.return_, 1) := by decide +kernel
theorem d_TS_copySector_0 : decode b_TS_copySector 0 = .ok (.iconst 0, 1) := by decide +kernel
theorem d_TS_copySector_1 : decode b_TS_copySector 1 = .ok (.istore 4, 2) := by decide +kernel
theorem d_TS_copySector_3 : decode b_TS_copySector 3 = .ok (.iload 4, 2) := by decide +kernel
theorem d_TS_copySector_5 : decode b_TS_copySector 5 = .ok (.bipush 64, 2) := by decide +kernel
theorem d_TS_copySector_7 : decode b_TS_copySector 7 = .ok (.if_icmp .ge 25, 3) := by decide +kernel
theorem d_TS_copySector_10 : decode b_TS_copySector 10 = .ok (.aload_n 2, 1) := by decide +kernel
theorem d_TS_copySector_11 : decode b_TS_copySector 11 = .ok (.iload_n 3, 1) := by decide +kernel
theorem d_TS_copySector_12 : decode b_TS_copySector 12 = .ok (.iload 4, 2) := by decide +kernel
theorem d_TS_copySector_14 : decode b_TS_copySector 14 = .ok (.iadd, 1) := by decide +kernel
theorem d_TS_copySector_15 : decode b_TS_copySector 15 = .ok (.aload_n 0, 1) := by decide +kernel
theorem d_TS_copySector_16 : decode b_TS_copySector 16 = .ok (.iload_n 1, 1) := by decide +kernel
theorem d_TS_copySector_17 : decode b_TS_copySector 17 = .ok (.iload 4, 2) := by decide +kernel
theorem d_TS_copySector_19 : decode b_TS_copySector 19 = .ok (.iadd, 1) := by decide +kernel
theorem d_TS_copySector_20 : decode b_TS_copySector 20 = .ok (.invokestatic 139, 3) := by decide +kernel
theorem d_TS_copySector_23 : decode b_TS_copySector 23 = .ok (.invokestatic 91, 3) := by decide +kernel
theorem d_TS_copySector_26 : decode b_TS_copySector 26 = .ok (.iinc 4 1, 3) := by decide +kernel
theorem d_TS_copySector_29 : decode b_TS_copySector 29 = .ok (.goto (-26), 3) := by decide +kernel
theorem d_TS_copySector_32 : decode b_TS_copySector 32 = .ok (.return_, 1) := by decide +kernel
theorem d_FL_bytesOfNextWrite_0 : decode b_FL_bytesOfNextWrite 0 = .ok (.aload_n 0, 1) := by decide +kernel
theorem d_FL_bytesOfNextWrite_1 : decode b_FL_bytesOfNextWrite 1 = .ok (.dup, 1) := by decide +kernel
theorem d_FL_bytesOfNextWrite_2 : decode b_FL_bytesOfNextWrite 2 = .ok (.getfield 26, 3) := by decide +kernel
theorem d_FL_bytesOfNextWrite_5 : decode b_FL_bytesOfNextWrite 5 = .ok (.iconst 1, 1) := by decide +kernel
theorem d_FL_bytesOfNextWrite_6 : decode b_FL_bytesOfNextWrite 6 = .ok (.iadd, 1) := by decide +kernel
theorem d_FL_bytesOfNextWrite_7 : decode b_FL_bytesOfNextWrite 7 = .ok (.putfield 26, 3) := by decide +kernel
theorem d_FL_bytesOfNextWrite_10 : decode b_FL_bytesOfNextWrite 10 = .ok (.aload_n 0, 1) := by decide +kernel
theorem d_FL_bytesOfNextWrite_11 : decode b_FL_bytesOfNextWrite 11 = .ok (.getfield 15, 3) := by decide +kernel
theorem d_FL_bytesOfNextWrite_14 : decode b_FL_bytesOfNextWrite 14 = .ok (.iconst (-1), 1) := by decide +kernel
theorem d_FL_bytesOfNextWrite_15 : decode b_FL_bytesOfNextWrite 15 = .ok (.if_icmp .ne 5, 3) := by decide +kernel
theorem d_FL_bytesOfNextWrite_18 : decode b_FL_bytesOfNextWrite 18 = .ok (.iload_n 1, 1) := by decide +kernel
theorem d_FL_bytesOfNextWrite_19 : decode b_FL_bytesOfNextWrite 19 = .ok (.ireturn, 1) := by decide +kernel
theorem d_FL_bytesOfNextWrite_20 : decode b_FL_bytesOfNextWrite 20 = .ok (.aload_n 0, 1) := by decide +kernel
theorem d_FL_bytesOfNextWrite_21 : decode b_FL_bytesOfNextWrite 21 = .ok (.dup, 1) := by decide +kernel
theorem d_FL_bytesOfNextWrite_22 : decode b_FL_bytesOfNextWrite 22 = .ok (.getfield 15, 3) := by decide +kernel
theorem d_FL_bytesOfNextWrite_25 : decode b_FL_bytesOfNextWrite 25 = .ok (.iconst 1, 1) := by decide +kernel
theorem d_FL_bytesOfNextWrite_26 : decode b_FL_bytesOfNextWrite 26 = .ok (.isub, 1) := by decide +kernel
theorem d_FL_bytesOfNextWrite_27 : decode b_FL_bytesOfNextWrite 27 = .ok (.putfield 15, 3) := by decide +kernel
theorem d_FL_bytesOfNextWrite_30 : decode b_FL_bytesOfNextWrite 30 = .ok (.aload_n 0, 1) := by decide +kernel
theorem d_FL_bytesOfNextWrite_31 : decode b_FL_bytesOfNextWrite 31 = .ok (.getfield 15, 3) := by decide +kernel
theorem d_FL_bytesOfNextWrite_34 : decode b_FL_bytesOfNextWrite 34 = .ok (.iconst (-1), 1) := by decide +kernel
theorem d_FL_bytesOfNextWrite_35 : decode b_FL_bytesOfNextWrite 35 = .ok (.if_icmp .eq 5, 3) := by decide +kernel
theorem d_FL_bytesOfNextWrite_38 : decode b_FL_bytesOfNextWrite 38 = .ok (.iload_n 1, 1) := by decide +kernel
theorem d_FL_bytesOfNextWrite_39 : decode b_FL_bytesOfNextWrite 39 = .ok (.ireturn, 1) := by decide +kernel
theorem d_FL_bytesOfNextWrite_40 : decode b_FL_bytesOfNextWrite 40 = .ok (.aload_n 0, 1) := by decide +kernel
theorem d_FL_bytesOfNextWrite_41 : decode b_FL_bytesOfNextWrite 41 = .ok (.iconst 1, 1) := by decide +kernel
theorem d_FL_bytesOfNextWrite_42 : decode b_FL_bytesOfNextWrite 42 = .ok (.putfield 22, 3) := by decide +kernel
theorem d_FL_bytesOfNextWrite_45 : decode b_FL_bytesOfNextWrite 45 = .ok (.aload_n 0, 1) := by decide +kernel
theorem d_FL_bytesOfNextWrite_46 : decode b_FL_bytesOfNextWrite 46 = .ok (.getfield 19, 3) := by decide +kernel
theorem d_FL_bytesOfNextWrite_49 : decode b_FL_bytesOfNextWrite 49 = .ok (.iload_n 1, 1) := by decide +kernel
theorem d_FL_bytesOfNextWrite_50 : decode b_FL_bytesOfNextWrite 50 = .ok (.iconst 1, 1) := by decide +kernel
theorem d_FL_bytesOfNextWrite_51 : decode b_FL_bytesOfNextWrite 51 = .ok (.isub, 1) := by decide +kernel
theorem d_FL_bytesOfNextWrite_52 : decode b_FL_bytesOfNextWrite 52 = .ok (.iand, 1) := by decide +kernel
theorem d_FL_bytesOfNextWrite_53 : decode b_FL_bytesOfNextWrite 53 = .ok (.ireturn, 1) := by decide +kernel
theorem d_FL_erase_0 : decode b_FL_erase 0 = .ok (.aload_n 0, 1) := by decide +kernel
theorem d_FL_erase_1 : decode b_FL_erase 1 = .ok (.dup, 1) := by decide +kernel
theorem d_FL_erase_2 : decode b_FL_erase 2 = .ok (.getfield 29, 3) := by decide +kernel
theorem d_FL_erase_5 : decode b_FL_erase 5 = .ok (.iconst 1, 1) := by decide +kernel
theorem d_FL_erase_6 : decode b_FL_erase 6 = .ok (.iadd, 1) := by decide +kernel
theorem d_FL_erase_7 : decode b_FL_erase 7 = .ok (.putfield 29, 3) := by decide +kernel
theorem d_FL_erase_10 : decode b_FL_erase 10 = .ok (.aload_n 0, 1) := by decide +kernel
theorem d_FL_erase_11 : decode b_FL_erase 11 = .ok (.bipush 64, 2) := by decide +kernel
theorem d_FL_erase_13 : decode b_FL_erase 13 = .ok (.invokevirtual 38, 3) := by decide +kernel
theorem d_FL_erase_16 : decode b_FL_erase 16 = .ok (.istore_n 2, 1) := by decide +kernel
theorem d_FL_erase_17 : decode b_FL_erase 17 = .ok (.iconst 0, 1) := by decide +kernel
theorem d_FL_erase_18 : decode b_FL_erase 18 = .ok (.istore_n 3, 1) := by decide +kernel
theorem d_FL_erase_19 : decode b_FL_erase 19 = .ok (.iload_n 3, 1) := by decide +kernel
theorem d_FL_erase_20 : decode b_FL_erase 20 = .ok (.iload_n 2, 1) := by decide +kernel
theorem d_FL_erase_21 : decode b_FL_erase 21 = .ok (.if_icmp .ge 25, 3) := by decide +kernel
theorem d_FL_erase_24 : decode b_FL_erase 24 = .ok (.aload_n 0, 1) := by decide +kernel
theorem d_FL_erase_25 : decode b_FL_erase 25 = .ok (.getfield 9, 3) := by decide +kernel
theorem d_FL_erase_28 : decode b_FL_erase 28 = .ok (.iload_n 1, 1) := by decide +kernel
theorem d_FL_erase_29 : decode b_FL_erase 29 = .ok (.bipush 64, 2) := by decide +kernel
theorem d_FL_erase_31 : decode b_FL_erase 31 = .ok (.imul, 1) := by decide +kernel
theorem d_FL_erase_32 : decode b_FL_erase 32 = .ok (.iload_n 3, 1) := by decide +kernel
theorem d_FL_erase_33 : decode b_FL_erase 33 = .ok (.iadd, 1) := by decide +kernel
theorem d_FL_erase_34 : decode b_FL_erase 34 = .ok (.sipush 255, 3) := by decide +kernel
theorem d_FL_erase_37 : decode b_FL_erase 37 = .ok (.invokestatic 42, 3) := by decide +kernel
theorem d_FL_erase_40 : decode b_FL_erase 40 = .ok (.iinc 3 1, 3) := by decide +kernel
theorem d_FL_erase_43 : decode b_FL_erase 43 = .ok (.goto (-24), 3) := by decide +kernel
theorem d_FL_erase_46 : decode b_FL_erase 46 = .ok (.aload_n 0, 1) := by decide +kernel
theorem d_FL_erase_47 : decode b_FL_erase 47 = .ok (.getfield 22, 3) := by decide +kernel
theorem d_FL_erase_50 : decode b_FL_erase 50 = .ok (.ifCond .ne 7, 3) := by decide +kernel
theorem d_FL_erase_53 : decode b_FL_erase 53 = .ok (.iconst 1, 1) := by decide +kernel
theorem d_FL_erase_54 : decode b_FL_erase 54 = .ok (.goto 4, 3) := by decide +kernel
theorem d_FL_erase_57 : decode b_FL_erase 57 = .ok (.iconst 0, 1) := by decide +kernel
theorem d_FL_erase_58 : decode b_FL_erase 58 = .ok (.ireturn, 1) := by decide +kernel
theorem d_FL_programLine_0 : decode b_FL_programLine 0 = .ok (.aload_n 0, 1) := by decide +kernel
theorem d_FL_programLine_1 : decode b_FL_programLine 1 = .ok (.bipush 16, 2) := by decide +kernel
theorem d_FL_programLine_3 : decode b_FL_programLine 3 = .ok (.invokevirtual 38, 3) := by decide +kernel
theorem d_FL_programLine_6 : decode b_FL_programLine 6 = .ok (.istore 4, 2) := by decide +kernel
theorem d_FL_programLine_8 : decode b_FL_programLine 8 = .ok (.iconst 0, 1) := by decide +kernel
theorem d_FL_programLine_9 : decode b_FL_programLine 9 = .ok (.istore 5, 2) := by decide +kernel
theorem d_FL_programLine_11 : decode b_FL_programLine 11 = .ok (.iload 5, 2) := by decide +kernel
theorem d_FL_programLine_13 : decode b_FL_programLine 13 = .ok (.iload 4, 2) := by decide +kernel
theorem d_FL_programLine_15 : decode b_FL_programLine 15 = .ok (.if_icmp .ge 40, 3) := by decide +kernel
theorem d_FL_programLine_18 : decode b_FL_programLine 18 = .ok (.aload_n 0, 1) := by decide +kernel
theorem d_FL_programLine_19 : decode b_FL_programLine 19 = .ok (.getfield 9, 3) := by decide +kernel
theorem d_FL_programLine_22 : decode b_FL_programLine 22 = .ok (.iload_n 1, 1) := by decide +kernel
theorem d_FL_programLine_23 : decode b_FL_programLine 23 = .ok (.iload 5, 2) := by decide +kernel
theorem d_FL_programLine_25 : decode b_FL_programLine 25 = .ok (.iadd, 1) := by decide +kernel
theorem d_FL_programLine_26 : decode b_FL_programLine 26 = .ok (.aload_n 0, 1) := by decide +kernel
theorem d_FL_programLine_27 : decode b_FL_programLine 27 = .ok (.getfield 9, 3) := by decide +kernel
theorem d_FL_programLine_30 : decode b_FL_programLine 30 = .ok (.iload_n 1, 1) := by decide +kernel
theorem d_FL_programLine_31 : decode b_FL_programLine 31 = .ok (.iload 5, 2) := by decide +kernel
theorem d_FL_programLine_33 : decode b_FL_programLine 33 = .ok (.iadd, 1) := by decide +kernel
theorem d_FL_programLine_34 : decode b_FL_programLine 34 = .ok (.invokestatic 46, 3) := by decide +kernel
theorem d_FL_programLine_37 : decode b_FL_programLine 37 = .ok (.aload_n 2, 1) := by decide +kernel
theorem d_FL_programLine_38 : decode b_FL_programLine 38 = .ok (.iload_n 3, 1) := by decide +kernel
theorem d_FL_programLine_39 : decode b_FL_programLine 39 = .ok (.iload 5, 2) := by decide +kernel
theorem d_FL_programLine_41 : decode b_FL_programLine 41 = .ok (.iadd, 1) := by decide +kernel
theorem d_FL_programLine_42 : decode b_FL_programLine 42 = .ok (.invokestatic 46, 3) := by decide +kernel
theorem d_FL_programLine_45 : decode b_FL_programLine 45 = .ok (.iand, 1) := by decide +kernel
theorem d_FL_programLine_46 : decode b_FL_programLine 46 = .ok (.invokestatic 42, 3) := by decide +kernel
theorem d_FL_programLine_49 : decode b_FL_programLine 49 = .ok (.iinc 5 1, 3) := by decide +kernel
theorem d_FL_programLine_52 : decode b_FL_programLine 52 = .ok (.goto (-41), 3) := by decide +kernel
theorem d_FL_programLine_55 : decode b_FL_programLine 55 = .ok (.aload_n 0, 1) := by decide +kernel
theorem d_FL_programLine_56 : decode b_FL_programLine 56 = .ok (.getfield 22, 3) := by decide +kernel
theorem d_FL_programLine_59 : decode b_FL_programLine 59 = .ok (.ifCond .ne 7, 3) := by decide +kernel
theorem d_FL_programLine_62 : decode b_FL_programLine 62 = .ok (.iconst 1, 1) := by decide +kernel
theorem d_FL_programLine_63 : decode b_FL_programLine 63 = .ok (.goto 4, 3) := by decide +kernel
theorem d_FL_programLine_66 : decode b_FL_programLine 66 = .ok (.iconst 0, 1) := by decide +kernel
theorem d_FL_programLine_67 : decode b_FL_programLine 67 = .ok (.ireturn, 1) := by decide +kernel
theorem d_FL_programSector_0 : decode b_FL_programSector 0 = .ok (.iconst 0, 1) := by decide +kernel
theorem d_FL_programSector_1 : decode b_FL_programSector 1 = .ok (.istore_n 3, 1) := by decide +kernel
theorem d_FL_programSector_2 : decode b_FL_programSector 2 = .ok (.iload_n 3, 1) := by decide +kernel
theorem d_FL_programSector_3 : decode b_FL_programSector 3 = .ok (.iconst 4, 1) := by decide +kernel
theorem d_FL_programSector_4 : decode b_FL_programSector 4 = .ok (.if_icmp .ge 32, 3) := by decide +kernel
theorem d_FL_programSector_7 : decode b_FL_programSector 7 = .ok (.aload_n 0, 1) := by decide +kernel
theorem d_FL_programSector_8 : decode b_FL_programSector 8 = .ok (.iload_n 1, 1) := by decide +kernel
theorem d_FL_programSector_9 : decode b_FL_programSector 9 = .ok (.bipush 64, 2) := by decide +kernel
theorem d_FL_programSector_11 : decode b_FL_programSector 11 = .ok (.imul, 1) := by decide +kernel
theorem d_FL_programSector_12 : decode b_FL_programSector 12 = .ok (.iload_n 3, 1) := by decide +kernel
theorem d_FL_programSector_13 : decode b_FL_programSector 13 = .ok (.bipush 16, 2) := by decide +kernel
theorem d_FL_programSector_15 : decode b_FL_programSector 15 = .ok (.imul, 1) := by decide +kernel
theorem d_FL_programSector_16 : decode b_FL_programSector 16 = .ok (.iadd, 1) := by decide +kernel
theorem d_FL_programSector_17 : decode b_FL_programSector 17 = .ok (.aload_n 2, 1) := by decide +kernel
theorem d_FL_programSector_18 : decode b_FL_programSector 18 = .ok (.iload_n 3, 1) := by decide +kernel
theorem d_FL_programSector_19 : decode b_FL_programSector 19 = .ok (.bipush 16, 2) := by decide +kernel
theorem d_FL_programSector_21 : decode b_FL_programSector 21 = .ok (.imul, 1) := by decide +kernel
theorem d_FL_programSector_22 : decode b_FL_programSector 22 = .ok (.invokevirtual 50, 3) := by decide +kernel
theorem d_FL_programSector_25 : decode b_FL_programSector 25 = .ok (.ifCond .ne 5, 3) := by decide +kernel
theorem d_FL_programSector_28 : decode b_FL_programSector 28 = .ok (.iconst 0, 1) := by decide +kernel
theorem d_FL_programSector_29 : decode b_FL_programSector 29 = .ok (.ireturn, 1) := by decide +kernel
