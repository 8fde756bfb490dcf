theorem d_MO_in_0 : decode b_MO_in 0 = .ok (.lload_n 2, 1) := by decide +kernel
theorem d_MO_in_1 : decode b_MO_in 1 = .ok (.lload_n 0, 1) := by decide +kernel
theorem d_MO_in_2 : decode b_MO_in 2 = .ok (.lcmp, 1) := by decide +kernel
theorem d_MO_in_3 : decode b_MO_in 3 = .ok (.ifCond .gt 14, 3) := by decide +kernel
theorem d_MO_in_6 : decode b_MO_in 6 = .ok (.lload_n 0, 1) := by decide +kernel
theorem d_MO_in_7 : decode b_MO_in 7 = .ok (.lload 4, 2) := by decide +kernel
theorem d_MO_in_9 : decode b_MO_in 9 = .ok (.lcmp, 1) := by decide +kernel
theorem d_MO_in_10 : decode b_MO_in 10 = .ok (.ifCond .gt 7, 3) := by decide +kernel
theorem d_MO_in_13 : decode b_MO_in 13 = .ok (.iconst 1, 1) := by decide +kernel
theorem d_MO_in_14 : decode b_MO_in 14 = .ok (.goto 4, 3) := by decide +kernel
theorem d_MO_in_17 : decode b_MO_in 17 = .ok (.iconst 0, 1) := by decide +kernel
theorem d_MO_in_18 : decode b_MO_in 18 = .ok (.ireturn, 1) := by decide +kernel
theorem d_MO_digested_0 : decode b_MO_digested 0 = .ok (.lload_n 0, 1) := by decide +kernel
theorem d_MO_digested_1 : decode b_MO_digested 1 = .ok (.iload_n 2, 1) := by decide +kernel
theorem d_MO_digested_2 : decode b_MO_digested 2 = .ok (.i2l, 1) := by decide +kernel
theorem d_MO_digested_3 : decode b_MO_digested 3 = .ok (.lxor, 1) := by decide +kernel
theorem d_MO_digested_4 : decode b_MO_digested 4 = .ok (.lstore_n 3, 1) := by decide +kernel
theorem d_MO_digested_5 : decode b_MO_digested 5 = .ok (.lload_n 3, 1) := by decide +kernel
theorem d_MO_digested_6 : decode b_MO_digested 6 = .ok (.bipush 13, 2) := by decide +kernel
theorem d_MO_digested_8 : decode b_MO_digested 8 = .ok (.lshl, 1) := by decide +kernel
theorem d_MO_digested_9 : decode b_MO_digested 9 = .ok (.lload_n 3, 1) := by decide +kernel
theorem d_MO_digested_10 : decode b_MO_digested 10 = .ok (.bipush 51, 2) := by decide +kernel
theorem d_MO_digested_12 : decode b_MO_digested 12 = .ok (.lushr, 1) := by decide +kernel
theorem d_MO_digested_13 : decode b_MO_digested 13 = .ok (.lor, 1) := by decide +kernel
theorem d_MO_digested_14 : decode b_MO_digested 14 = .ok (.ldc2_w 56, 3) := by decide +kernel
theorem d_MO_digested_17 : decode b_MO_digested 17 = .ok (.lmul, 1) := by decide +kernel
theorem d_MO_digested_18 : decode b_MO_digested 18 = .ok (.lreturn, 1) := by decide +kernel
theorem d_MO_numberOf_0 : decode b_MO_numberOf 0 = .ok (.aload_n 0, 1) := by decide +kernel
theorem d_MO_numberOf_1 : decode b_MO_numberOf 1 = .ok (.getfield 38, 3) := by decide +kernel
theorem d_MO_numberOf_4 : decode b_MO_numberOf 4 = .ok (.iload_n 1, 1) := by decide +kernel
theorem d_MO_numberOf_5 : decode b_MO_numberOf 5 = .ok (.i2l, 1) := by decide +kernel
theorem d_MO_numberOf_6 : decode b_MO_numberOf 6 = .ok (.ldc2_w 58, 3) := by decide +kernel
theorem d_MO_numberOf_9 : decode b_MO_numberOf 9 = .ok (.lmul, 1) := by decide +kernel
theorem d_MO_numberOf_10 : decode b_MO_numberOf 10 = .ok (.lxor, 1) := by decide +kernel
theorem d_MO_numberOf_11 : decode b_MO_numberOf 11 = .ok (.lreturn, 1) := by decide +kernel
theorem d_MO_number_0 : decode b_MO_number 0 = .ok (.iconst 0, 1) := by decide +kernel
theorem d_MO_number_1 : decode b_MO_number 1 = .ok (.istore 6, 2) := by decide +kernel
theorem d_MO_number_3 : decode b_MO_number 3 = .ok (.iload 6, 2) := by decide +kernel
theorem d_MO_number_5 : decode b_MO_number 5 = .ok (.iload 5, 2) := by decide +kernel
theorem d_MO_number_7 : decode b_MO_number 7 = .ok (.if_icmp .ge 32, 3) := by decide +kernel
theorem d_MO_number_10 : decode b_MO_number 10 = .ok (.aload_n 1, 1) := by decide +kernel
theorem d_MO_number_11 : decode b_MO_number 11 = .ok (.iload_n 2, 1) := by decide +kernel
theorem d_MO_number_12 : decode b_MO_number 12 = .ok (.iload 6, 2) := by decide +kernel
theorem d_MO_number_14 : decode b_MO_number 14 = .ok (.iadd, 1) := by decide +kernel
theorem d_MO_number_15 : decode b_MO_number 15 = .ok (.lload_n 3, 1) := by decide +kernel
theorem d_MO_number_16 : decode b_MO_number 16 = .ok (.bipush 8, 2) := by decide +kernel
theorem d_MO_number_18 : decode b_MO_number 18 = .ok (.iload 5, 2) := by decide +kernel
theorem d_MO_number_20 : decode b_MO_number 20 = .ok (.iconst 1, 1) := by decide +kernel
theorem d_MO_number_21 : decode b_MO_number 21 = .ok (.isub, 1) := by decide +kernel
theorem d_MO_number_22 : decode b_MO_number 22 = .ok (.iload 6, 2) := by decide +kernel
theorem d_MO_number_24 : decode b_MO_number 24 = .ok (.isub, 1) := by decide +kernel
theorem d_MO_number_25 : decode b_MO_number 25 = .ok (.imul, 1) := by decide +kernel
theorem d_MO_number_26 : decode b_MO_number 26 = .ok (.lshr, 1) := by decide +kernel
theorem d_MO_number_27 : decode b_MO_number 27 = .ok (.l2i, 1) := by decide +kernel
theorem d_MO_number_28 : decode b_MO_number 28 = .ok (.sipush 255, 3) := by decide +kernel
theorem d_MO_number_31 : decode b_MO_number 31 = .ok (.iand, 1) := by decide +kernel
theorem d_MO_number_32 : decode b_MO_number 32 = .ok (.iastore, 1) := by decide +kernel
theorem d_MO_number_33 : decode b_MO_number 33 = .ok (.iinc 6 1, 3) := by decide +kernel
theorem d_MO_number_36 : decode b_MO_number 36 = .ok (.goto (-33), 3) := by decide +kernel
theorem d_MO_number_39 : decode b_MO_number 39 = .ok (.return_, 1) := by decide +kernel
theorem d_MO_header_0 : decode b_MO_header 0 = .ok (.iconst 0, 1) := by decide +kernel
theorem d_MO_header_1 : decode b_MO_header 1 = .ok (.istore 6, 2) := by decide +kernel
theorem d_MO_header_3 : decode b_MO_header 3 = .ok (.iload 6, 2) := by decide +kernel
theorem d_MO_header_5 : decode b_MO_header 5 = .ok (.bipush 64, 2) := by decide +kernel
theorem d_MO_header_7 : decode b_MO_header 7 = .ok (.if_icmp .ge 17, 3) := by decide +kernel
theorem d_MO_header_10 : decode b_MO_header 10 = .ok (.aload_n 0, 1) := by decide +kernel
theorem d_MO_header_11 : decode b_MO_header 11 = .ok (.getfield 32, 3) := by decide +kernel
theorem d_MO_header_14 : decode b_MO_header 14 = .ok (.iload 6, 2) := by decide +kernel
theorem d_MO_header_16 : decode b_MO_header 16 = .ok (.iconst 0, 1) := by decide +kernel
theorem d_MO_header_17 : decode b_MO_header 17 = .ok (.iastore, 1) := by decide +kernel
theorem d_MO_header_18 : decode b_MO_header 18 = .ok (.iinc 6 1, 3) := by decide +kernel
theorem d_MO_header_21 : decode b_MO_header 21 = .ok (.goto (-18), 3) := by decide +kernel
theorem d_MO_header_24 : decode b_MO_header 24 = .ok (.aload_n 0, 1) := by decide +kernel
theorem d_MO_header_25 : decode b_MO_header 25 = .ok (.getfield 32, 3) := by decide +kernel
theorem d_MO_header_28 : decode b_MO_header 28 = .ok (.iconst 0, 1) := by decide +kernel
theorem d_MO_header_29 : decode b_MO_header 29 = .ok (.bipush 84, 2) := by decide +kernel
theorem d_MO_header_31 : decode b_MO_header 31 = .ok (.iastore, 1) := by decide +kernel
theorem d_MO_header_32 : decode b_MO_header 32 = .ok (.aload_n 0, 1) := by decide +kernel
theorem d_MO_header_33 : decode b_MO_header 33 = .ok (.getfield 32, 3) := by decide +kernel
theorem d_MO_header_36 : decode b_MO_header 36 = .ok (.iconst 1, 1) := by decide +kernel
theorem d_MO_header_37 : decode b_MO_header 37 = .ok (.bipush 87, 2) := by decide +kernel
theorem d_MO_header_39 : decode b_MO_header 39 = .ok (.iastore, 1) := by decide +kernel
theorem d_MO_header_40 : decode b_MO_header 40 = .ok (.aload_n 0, 1) := by decide +kernel
theorem d_MO_header_41 : decode b_MO_header 41 = .ok (.getfield 32, 3) := by decide +kernel
theorem d_MO_header_44 : decode b_MO_header 44 = .ok (.iconst 2, 1) := by decide +kernel
theorem d_MO_header_45 : decode b_MO_header 45 = .ok (.bipush 79, 2) := by decide +kernel
theorem d_MO_header_47 : decode b_MO_header 47 = .ok (.iastore, 1) := by decide +kernel
theorem d_MO_header_48 : decode b_MO_header 48 = .ok (.aload_n 0, 1) := by decide +kernel
theorem d_MO_header_49 : decode b_MO_header 49 = .ok (.getfield 32, 3) := by decide +kernel
theorem d_MO_header_52 : decode b_MO_header 52 = .ok (.iconst 3, 1) := by decide +kernel
theorem d_MO_header_53 : decode b_MO_header 53 = .ok (.bipush 83, 2) := by decide +kernel
theorem d_MO_header_55 : decode b_MO_header 55 = .ok (.iastore, 1) := by decide +kernel
theorem d_MO_header_56 : decode b_MO_header 56 = .ok (.aload_n 0, 1) := by decide +kernel
theorem d_MO_header_57 : decode b_MO_header 57 = .ok (.aload_n 0, 1) := by decide +kernel
theorem d_MO_header_58 : decode b_MO_header 58 = .ok (.getfield 32, 3) := by decide +kernel
theorem d_MO_header_61 : decode b_MO_header 61 = .ok (.iconst 4, 1) := by decide +kernel
theorem d_MO_header_62 : decode b_MO_header 62 = .ok (.iload_n 1, 1) := by decide +kernel
theorem d_MO_header_63 : decode b_MO_header 63 = .ok (.i2l, 1) := by decide +kernel
theorem d_MO_header_64 : decode b_MO_header 64 = .ok (.iconst 4, 1) := by decide +kernel
theorem d_MO_header_65 : decode b_MO_header 65 = .ok (.invokevirtual 60, 3) := by decide +kernel
theorem d_MO_header_68 : decode b_MO_header 68 = .ok (.aload_n 0, 1) := by decide +kernel
theorem d_MO_header_69 : decode b_MO_header 69 = .ok (.aload_n 0, 1) := by decide +kernel
theorem d_MO_header_70 : decode b_MO_header 70 = .ok (.getfield 32, 3) := by decide +kernel
theorem d_MO_header_73 : decode b_MO_header 73 = .ok (.bipush 8, 2) := by decide +kernel
theorem d_MO_header_75 : decode b_MO_header 75 = .ok (.iload_n 2, 1) := by decide +kernel
theorem d_MO_header_76 : decode b_MO_header 76 = .ok (.i2l, 1) := by decide +kernel
theorem d_MO_header_77 : decode b_MO_header 77 = .ok (.iconst 4, 1) := by decide +kernel
theorem d_MO_header_78 : decode b_MO_header 78 = .ok (.invokevirtual 60, 3) := by decide +kernel
theorem d_MO_header_81 : decode b_MO_header 81 = .ok (.aload_n 0, 1) := by decide +kernel
theorem d_MO_header_82 : decode b_MO_header 82 = .ok (.getfield 32, 3) := by decide +kernel
theorem d_MO_header_85 : decode b_MO_header 85 = .ok (.bipush 12, 2) := by decide +kernel
theorem d_MO_header_87 : decode b_MO_header 87 = .ok (.iload_n 3, 1) := by decide +kernel
theorem d_MO_header_88 : decode b_MO_header 88 = .ok (.iastore, 1) := by decide +kernel
theorem d_MO_header_89 : decode b_MO_header 89 = .ok (.aload_n 0, 1) := by decide +kernel
theorem d_MO_header_90 : decode b_MO_header 90 = .ok (.aload_n 0, 1) := by decide +kernel
theorem d_MO_header_91 : decode b_MO_header 91 = .ok (.getfield 32, 3) := by decide +kernel
theorem d_MO_header_94 : decode b_MO_header 94 = .ok (.bipush 20, 2) := by decide +kernel
theorem d_MO_header_96 : decode b_MO_header 96 = .ok (.lload 4, 2) := by decide +kernel
theorem d_MO_header_98 : decode b_MO_header 98 = .ok (.bipush 8, 2) := by decide +kernel
theorem d_MO_header_100 : decode b_MO_header 100 = .ok (.invokevirtual 60, 3) := by decide +kernel
theorem d_MO_header_103 : decode b_MO_header 103 = .ok (.aload_n 0, 1) := by decide +kernel
theorem d_MO_header_104 : decode b_MO_header 104 = .ok (.iload_n 3, 1) := by decide +kernel
theorem d_MO_header_105 : decode b_MO_header 105 = .ok (.invokevirtual 64, 3) := by decide +kernel
theorem d_MO_header_108 : decode b_MO_header 108 = .ok (.lstore 6, 2) := by decide +kernel
theorem d_MO_header_110 : decode b_MO_header 110 = .ok (.iconst 0, 1) := by decide +kernel
theorem d_MO_header_111 : decode b_MO_header 111 = .ok (.istore 8, 2) := by decide +kernel
theorem d_MO_header_113 : decode b_MO_header 113 = .ok (.iload 8, 2) := by decide +kernel
theorem d_MO_header_115 : decode b_MO_header 115 = .ok (.bipush 56, 2) := by decide +kernel
theorem d_MO_header_117 : decode b_MO_header 117 = .ok (.if_icmp .ge 23, 3) := by decide +kernel
theorem d_MO_header_120 : decode b_MO_header 120 = .ok (.lload 6, 2) := by decide +kernel
theorem d_MO_header_122 : decode b_MO_header 122 = .ok (.aload_n 0, 1) := by decide +kernel
theorem d_MO_header_123 : decode b_MO_header 123 = .ok (.getfield 32, 3) := by decide +kernel
theorem d_MO_header_126 : decode b_MO_header 126 = .ok (.iload 8, 2) := by decide +kernel
theorem d_MO_header_128 : decode b_MO_header 128 = .ok (.iaload, 1) := by decide +kernel
theorem d_MO_header_129 : decode b_MO_header 129 = .ok (.invokestatic 44, 3) := by decide +kernel
theorem d_MO_header_132 : decode b_MO_header 132 = .ok (.lstore 6, 2) := by decide +kernel
theorem d_MO_header_134 : decode b_MO_header 134 = .ok (.iinc 8 1, 3) := by decide +kernel
theorem d_MO_header_137 : decode b_MO_header 137 = .ok (.goto (-24), 3) := by decide +kernel
theorem d_MO_header_140 : decode b_MO_header 140 = .ok (.aload_n 0, 1) := by decide +kernel
theorem d_MO_header_141 : decode b_MO_header 141 = .ok (.aload_n 0, 1) := by decide +kernel
theorem d_MO_header_142 : decode b_MO_header 142 = .ok (.getfield 32, 3) := by decide +kernel
theorem d_MO_header_145 : decode b_MO_header 145 = .ok (.bipush 56, 2) := by decide +kernel
theorem d_MO_header_147 : decode b_MO_header 147 = .ok (.lload 6, 2) := by decide +kernel
theorem d_MO_header_149 : decode b_MO_header 149 = .ok (.bipush 8, 2) := by decide +kernel
theorem d_MO_header_151 : decode b_MO_header 151 = .ok (.invokevirtual 60, 3) := by decide +kernel
theorem d_MO_header_154 : decode b_MO_header 154 = .ok (.return_, 1) := by decide +kernel
theorem d_MO_read_0 : decode b_MO_read 0 = .ok (.lconst 0, 1) := by decide +kernel
theorem d_MO_read_1 : decode b_MO_read 1 = .ok (.lstore 4, 2) := by decide +kernel
theorem d_MO_read_3 : decode b_MO_read 3 = .ok (.iconst 0, 1) := by decide +kernel
theorem d_MO_read_4 : decode b_MO_read 4 = .ok (.istore 6, 2) := by decide +kernel
theorem d_MO_read_6 : decode b_MO_read 6 = .ok (.iload 6, 2) := by decide +kernel
theorem d_MO_read_8 : decode b_MO_read 8 = .ok (.iload_n 3, 1) := by decide +kernel
theorem d_MO_read_9 : decode b_MO_read 9 = .ok (.if_icmp .ge 24, 3) := by decide +kernel
theorem d_MO_read_12 : decode b_MO_read 12 = .ok (.lload 4, 2) := by decide +kernel
theorem d_MO_read_14 : decode b_MO_read 14 = .ok (.bipush 8, 2) := by decide +kernel
theorem d_MO_read_16 : decode b_MO_read 16 = .ok (.lshl, 1) := by decide +kernel
theorem d_MO_read_17 : decode b_MO_read 17 = .ok (.aload_n 1, 1) := by decide +kernel
theorem d_MO_read_18 : decode b_MO_read 18 = .ok (.iload_n 2, 1) := by decide +kernel
theorem d_MO_read_19 : decode b_MO_read 19 = .ok (.iload 6, 2) := by decide +kernel
theorem d_MO_read_21 : decode b_MO_read 21 = .ok (.iadd, 1) := by decide +kernel
theorem d_MO_read_22 : decode b_MO_read 22 = .ok (.iaload, 1) := by decide +kernel
theorem d_MO_read_23 : decode b_MO_read 23 = .ok (.i2l, 1) := by decide +kernel
theorem d_MO_read_24 : decode b_MO_read 24 = .ok (.lor, 1) := by decide +kernel
theorem d_MO_read_25 : decode b_MO_read 25 = .ok (.lstore 4, 2) := by decide +kernel
theorem d_MO_read_27 : decode b_MO_read 27 = .ok (.iinc 6 1, 3) := by decide +kernel
theorem d_MO_read_30 : decode b_MO_read 30 = .ok (.goto (-24), 3) := by decide +kernel
theorem d_MO_read_33 : decode b_MO_read 33 = .ok (.lload 4, 2) := by decide +kernel
theorem d_MO_read_35 : decode b_MO_read 35 = .ok (.lreturn, 1) := by decide +kernel
theorem d_MO_newest_0 : decode b_MO_newest 0 = .ok (.iconst (-1), 1) := by decide +kernel
theorem d_MO_newest_1 : decode b_MO_newest 1 = .ok (.istore_n 1, 1) := by decide +kernel
theorem d_MO_newest_2 : decode b_MO_newest 2 = .ok (.iconst 0, 1) := by decide +kernel
theorem d_MO_newest_3 : decode b_MO_newest 3 = .ok (.istore_n 2, 1) := by decide +kernel
theorem d_MO_newest_4 : decode b_MO_newest 4 = .ok (.iload_n 2, 1) := by decide +kernel
theorem d_MO_newest_5 : decode b_MO_newest 5 = .ok (.sipush 128, 3) := by decide +kernel
theorem d_MO_newest_8 : decode b_MO_newest 8 = .ok (.if_icmp .ge 124, 3) := by decide +kernel
theorem d_MO_newest_11 : decode b_MO_newest 11 = .ok (.aload_n 0, 1) := by decide +kernel
theorem d_MO_newest_12 : decode b_MO_newest 12 = .ok (.getfield 7, 3) := by decide +kernel
theorem d_MO_newest_15 : decode b_MO_newest 15 = .ok (.iload_n 2, 1) := by decide +kernel
theorem d_MO_newest_16 : decode b_MO_newest 16 = .ok (.iaload, 1) := by decide +kernel
theorem d_MO_newest_17 : decode b_MO_newest 17 = .ok (.ifCond .ne 72, 3) := by decide +kernel
theorem d_MO_newest_20 : decode b_MO_newest 20 = .ok (.aload_n 0, 1) := by decide +kernel
theorem d_MO_newest_21 : decode b_MO_newest 21 = .ok (.getfield 7, 3) := by decide +kernel
theorem d_MO_newest_24 : decode b_MO_newest 24 = .ok (.iload_n 2, 1) := by decide +kernel
theorem d_MO_newest_25 : decode b_MO_newest 25 = .ok (.bipush 15, 2) := by decide +kernel
theorem d_MO_newest_27 : decode b_MO_newest 27 = .ok (.iadd, 1) := by decide +kernel
theorem d_MO_newest_28 : decode b_MO_newest 28 = .ok (.iaload, 1) := by decide +kernel
theorem d_MO_newest_29 : decode b_MO_newest 29 = .ok (.bipush 90, 2) := by decide +kernel
theorem d_MO_newest_31 : decode b_MO_newest 31 = .ok (.if_icmp .ne 58, 3) := by decide +kernel
theorem d_MO_newest_34 : decode b_MO_newest 34 = .ok (.aload_n 0, 1) := by decide +kernel
theorem d_MO_newest_35 : decode b_MO_newest 35 = .ok (.getfield 7, 3) := by decide +kernel
theorem d_MO_newest_38 : decode b_MO_newest 38 = .ok (.iload_n 2, 1) := by decide +kernel
theorem d_MO_newest_39 : decode b_MO_newest 39 = .ok (.iconst 4, 1) := by decide +kernel
theorem d_MO_newest_40 : decode b_MO_newest 40 = .ok (.iadd, 1) := by decide +kernel
theorem d_MO_newest_41 : decode b_MO_newest 41 = .ok (.iaload, 1) := by decide +kernel
theorem d_MO_newest_42 : decode b_MO_newest 42 = .ok (.iconst 2, 1) := by decide +kernel
theorem d_MO_newest_43 : decode b_MO_newest 43 = .ok (.if_icmp .ge 46, 3) := by decide +kernel
theorem d_MO_newest_46 : decode b_MO_newest 46 = .ok (.aload_n 0, 1) := by decide +kernel
theorem d_MO_newest_47 : decode b_MO_newest 47 = .ok (.getfield 7, 3) := by decide +kernel
theorem d_MO_newest_50 : decode b_MO_newest 50 = .ok (.iload_n 2, 1) := by decide +kernel
theorem d_MO_newest_51 : decode b_MO_newest 51 = .ok (.iconst 5, 1) := by decide +kernel
theorem d_MO_newest_52 : decode b_MO_newest 52 = .ok (.iadd, 1) := by decide +kernel
theorem d_MO_newest_53 : decode b_MO_newest 53 = .ok (.iaload, 1) := by decide +kernel
theorem d_MO_newest_54 : decode b_MO_newest 54 = .ok (.iconst 2, 1) := by decide +kernel
theorem d_MO_newest_55 : decode b_MO_newest 55 = .ok (.if_icmp .lt 17, 3) := by decide +kernel
theorem d_MO_newest_58 : decode b_MO_newest 58 = .ok (.aload_n 0, 1) := by decide +kernel
theorem d_MO_newest_59 : decode b_MO_newest 59 = .ok (.getfield 7, 3) := by decide +kernel
theorem d_MO_newest_62 : decode b_MO_newest 62 = .ok (.iload_n 2, 1) := by decide +kernel
theorem d_MO_newest_63 : decode b_MO_newest 63 = .ok (.iconst 5, 1) := by decide +kernel
theorem d_MO_newest_64 : decode b_MO_newest 64 = .ok (.iadd, 1) := by decide +kernel
theorem d_MO_newest_65 : decode b_MO_newest 65 = .ok (.iaload, 1) := by decide +kernel
theorem d_MO_newest_66 : decode b_MO_newest 66 = .ok (.sipush 255, 3) := by decide +kernel
theorem d_MO_newest_69 : decode b_MO_newest 69 = .ok (.if_icmp .ne 20, 3) := by decide +kernel
theorem d_MO_newest_72 : decode b_MO_newest 72 = .ok (.aload_n 0, 1) := by decide +kernel
theorem d_MO_newest_73 : decode b_MO_newest 73 = .ok (.getfield 7, 3) := by decide +kernel
theorem d_MO_newest_76 : decode b_MO_newest 76 = .ok (.iload_n 2, 1) := by decide +kernel
theorem d_MO_newest_77 : decode b_MO_newest 77 = .ok (.bipush 6, 2) := by decide +kernel
theorem d_MO_newest_79 : decode b_MO_newest 79 = .ok (.iadd, 1) := by decide +kernel
theorem d_MO_newest_80 : decode b_MO_newest 80 = .ok (.iaload, 1) := by decide +kernel
theorem d_MO_newest_81 : decode b_MO_newest 81 = .ok (.iconst 4, 1) := by decide +kernel
theorem d_MO_newest_82 : decode b_MO_newest 82 = .ok (.if_icmp .ge 7, 3) := by decide +kernel
theorem d_MO_newest_85 : decode b_MO_newest 85 = .ok (.iconst 1, 1) := by decide +kernel
theorem d_MO_newest_86 : decode b_MO_newest 86 = .ok (.goto 4, 3) := by decide +kernel
theorem d_MO_newest_89 : decode b_MO_newest 89 = .ok (.iconst 0, 1) := by decide +kernel
theorem d_MO_newest_90 : decode b_MO_newest 90 = .ok (.istore_n 3, 1) := by decide +kernel
theorem d_MO_newest_91 : decode b_MO_newest 91 = .ok (.iload_n 3, 1) := by decide +kernel
theorem d_MO_newest_92 : decode b_MO_newest 92 = .ok (.ifCond .eq 34, 3) := by decide +kernel
theorem d_MO_newest_95 : decode b_MO_newest 95 = .ok (.iload_n 1, 1) := by decide +kernel
theorem d_MO_newest_96 : decode b_MO_newest 96 = .ok (.iconst (-1), 1) := by decide +kernel
theorem d_MO_newest_97 : decode b_MO_newest 97 = .ok (.if_icmp .eq 27, 3) := by decide +kernel
theorem d_MO_newest_100 : decode b_MO_newest 100 = .ok (.aload_n 0, 1) := by decide +kernel
theorem d_MO_newest_101 : decode b_MO_newest 101 = .ok (.aload_n 0, 1) := by decide +kernel
theorem d_MO_newest_102 : decode b_MO_newest 102 = .ok (.getfield 7, 3) := by decide +kernel
theorem d_MO_newest_105 : decode b_MO_newest 105 = .ok (.iload_n 2, 1) := by decide +kernel
theorem d_MO_newest_106 : decode b_MO_newest 106 = .ok (.iconst 4, 1) := by decide +kernel
theorem d_MO_newest_107 : decode b_MO_newest 107 = .ok (.invokevirtual 68, 3) := by decide +kernel
theorem d_MO_newest_110 : decode b_MO_newest 110 = .ok (.aload_n 0, 1) := by decide +kernel
theorem d_MO_newest_111 : decode b_MO_newest 111 = .ok (.aload_n 0, 1) := by decide +kernel
theorem d_MO_newest_112 : decode b_MO_newest 112 = .ok (.getfield 7, 3) := by decide +kernel
theorem d_MO_newest_115 : decode b_MO_newest 115 = .ok (.iload_n 1, 1) := by decide +kernel
theorem d_MO_newest_116 : decode b_MO_newest 116 = .ok (.iconst 4, 1) := by decide +kernel
theorem d_MO_newest_117 : decode b_MO_newest 117 = .ok (.invokevirtual 68, 3) := by decide +kernel
theorem d_MO_newest_120 : decode b_MO_newest 120 = .ok (.lcmp, 1) := by decide +kernel
theorem d_MO_newest_121 : decode b_MO_newest 121 = .ok (.ifCond .le 5, 3) := by decide +kernel
theorem d_MO_newest_124 : decode b_MO_newest 124 = .ok (.iload_n 2, 1) := by decide +kernel
theorem d_MO_newest_125 : decode b_MO_newest 125 = .ok (.istore_n 1, 1) := by decide +kernel
theorem d_MO_newest_126 : decode b_MO_newest 126 = .ok (.iinc 2 16, 3) := by decide +kernel
theorem d_MO_newest_129 : decode b_MO_newest 129 = .ok (.goto (-125), 3) := by decide +kernel
theorem d_MO_newest_132 : decode b_MO_newest 132 = .ok (.iload_n 1, 1) := by decide +kernel
theorem d_MO_newest_133 : decode b_MO_newest 133 = .ok (.ireturn, 1) := by decide +kernel
theorem d_MO_isRight_0 : decode b_MO_isRight 0 = .ok (.aload_n 0, 1) := by decide +kernel
theorem d_MO_isRight_1 : decode b_MO_isRight 1 = .ok (.aload_n 1, 1) := by decide +kernel
theorem d_MO_isRight_2 : decode b_MO_isRight 2 = .ok (.iload_n 2, 1) := by decide +kernel
theorem d_MO_isRight_3 : decode b_MO_isRight 3 = .ok (.iconst 4, 1) := by decide +kernel
theorem d_MO_isRight_4 : decode b_MO_isRight 4 = .ok (.invokevirtual 68, 3) := by decide +kernel
theorem d_MO_isRight_7 : decode b_MO_isRight 7 = .ok (.ldc2_w 72, 3) := by decide +kernel
theorem d_MO_isRight_10 : decode b_MO_isRight 10 = .ok (.lcmp, 1) := by decide +kernel
theorem d_MO_isRight_11 : decode b_MO_isRight 11 = .ok (.ifCond .ne 49, 3) := by decide +kernel
theorem d_MO_isRight_14 : decode b_MO_isRight 14 = .ok (.aload_n 0, 1) := by decide +kernel
theorem d_MO_isRight_15 : decode b_MO_isRight 15 = .ok (.aload_n 1, 1) := by decide +kernel
theorem d_MO_isRight_16 : decode b_MO_isRight 16 = .ok (.iload_n 2, 1) := by decide +kernel
theorem d_MO_isRight_17 : decode b_MO_isRight 17 = .ok (.bipush 8, 2) := by decide +kernel
theorem d_MO_isRight_19 : decode b_MO_isRight 19 = .ok (.iadd, 1) := by decide +kernel
theorem d_MO_isRight_20 : decode b_MO_isRight 20 = .ok (.iconst 4, 1) := by decide +kernel
theorem d_MO_isRight_21 : decode b_MO_isRight 21 = .ok (.invokevirtual 68, 3) := by decide +kernel
theorem d_MO_isRight_24 : decode b_MO_isRight 24 = .ok (.lconst 1, 1) := by decide +kernel
theorem d_MO_isRight_25 : decode b_MO_isRight 25 = .ok (.ldc2_w 74, 3) := by decide +kernel
theorem d_MO_isRight_28 : decode b_MO_isRight 28 = .ok (.invokestatic 76, 3) := by decide +kernel
theorem d_MO_isRight_31 : decode b_MO_isRight 31 = .ok (.ifCond .eq 29, 3) := by decide +kernel
theorem d_MO_isRight_34 : decode b_MO_isRight 34 = .ok (.aload_n 1, 1) := by decide +kernel
theorem d_MO_isRight_35 : decode b_MO_isRight 35 = .ok (.iload_n 2, 1) := by decide +kernel
theorem d_MO_isRight_36 : decode b_MO_isRight 36 = .ok (.bipush 12, 2) := by decide +kernel
theorem d_MO_isRight_38 : decode b_MO_isRight 38 = .ok (.iadd, 1) := by decide +kernel
theorem d_MO_isRight_39 : decode b_MO_isRight 39 = .ok (.iaload, 1) := by decide +kernel
theorem d_MO_isRight_40 : decode b_MO_isRight 40 = .ok (.iconst 3, 1) := by decide +kernel
theorem d_MO_isRight_41 : decode b_MO_isRight 41 = .ok (.if_icmp .gt 19, 3) := by decide +kernel
theorem d_MO_isRight_44 : decode b_MO_isRight 44 = .ok (.aload_n 0, 1) := by decide +kernel
theorem d_MO_isRight_45 : decode b_MO_isRight 45 = .ok (.aload_n 1, 1) := by decide +kernel
theorem d_MO_isRight_46 : decode b_MO_isRight 46 = .ok (.iload_n 2, 1) := by decide +kernel
theorem d_MO_isRight_47 : decode b_MO_isRight 47 = .ok (.bipush 13, 2) := by decide +kernel
theorem d_MO_isRight_49 : decode b_MO_isRight 49 = .ok (.iadd, 1) := by decide +kernel
theorem d_MO_isRight_50 : decode b_MO_isRight 50 = .ok (.bipush 7, 2) := by decide +kernel
theorem d_MO_isRight_52 : decode b_MO_isRight 52 = .ok (.invokevirtual 68, 3) := by decide +kernel
theorem d_MO_isRight_55 : decode b_MO_isRight 55 = .ok (.lconst 0, 1) := by decide +kernel
theorem d_MO_isRight_56 : decode b_MO_isRight 56 = .ok (.lcmp, 1) := by decide +kernel
theorem d_MO_isRight_57 : decode b_MO_isRight 57 = .ok (.ifCond .eq 5, 3) := by decide +kernel
theorem d_MO_isRight_60 : decode b_MO_isRight 60 = .ok (.iconst 0, 1) := by decide +kernel
theorem d_MO_isRight_61 : decode b_MO_isRight 61 = .ok (.ireturn, 1) := by decide +kernel
theorem d_MO_isRight_62 : decode b_MO_isRight 62 = .ok (.iconst 1, 1) := by decide +kernel
theorem d_MO_isRight_63 : decode b_MO_isRight 63 = .ok (.istore_n 3, 1) := by decide +kernel
theorem d_MO_isRight_64 : decode b_MO_isRight 64 = .ok (.bipush 28, 2) := by decide +kernel
theorem d_MO_isRight_66 : decode b_MO_isRight 66 = .ok (.istore 4, 2) := by decide +kernel
theorem d_MO_isRight_68 : decode b_MO_isRight 68 = .ok (.iload 4, 2) := by decide +kernel
theorem d_MO_isRight_70 : decode b_MO_isRight 70 = .ok (.bipush 56, 2) := by decide +kernel
theorem d_MO_isRight_72 : decode b_MO_isRight 72 = .ok (.if_icmp .ge 28, 3) := by decide +kernel
theorem d_MO_isRight_75 : decode b_MO_isRight 75 = .ok (.iload_n 3, 1) := by decide +kernel
theorem d_MO_isRight_76 : decode b_MO_isRight 76 = .ok (.ifCond .eq 16, 3) := by decide +kernel
theorem d_MO_isRight_79 : decode b_MO_isRight 79 = .ok (.aload_n 1, 1) := by decide +kernel
theorem d_MO_isRight_80 : decode b_MO_isRight 80 = .ok (.iload_n 2, 1) := by decide +kernel
theorem d_MO_isRight_81 : decode b_MO_isRight 81 = .ok (.iload 4, 2) := by decide +kernel
theorem d_MO_isRight_83 : decode b_MO_isRight 83 = .ok (.iadd, 1) := by decide +kernel
theorem d_MO_isRight_84 : decode b_MO_isRight 84 = .ok (.iaload, 1) := by decide +kernel
theorem d_MO_isRight_85 : decode b_MO_isRight 85 = .ok (.ifCond .ne 7, 3) := by decide +kernel
theorem d_MO_isRight_88 : decode b_MO_isRight 88 = .ok (.iconst 1, 1) := by decide +kernel
theorem d_MO_isRight_89 : decode b_MO_isRight 89 = .ok (.goto 4, 3) := by decide +kernel
theorem d_MO_isRight_92 : decode b_MO_isRight 92 = .ok (.iconst 0, 1) := by decide +kernel
theorem d_MO_isRight_93 : decode b_MO_isRight 93 = .ok (.istore_n 3, 1) := by decide +kernel
theorem d_MO_isRight_94 : decode b_MO_isRight 94 = .ok (.iinc 4 1, 3) := by decide +kernel
theorem d_MO_isRight_97 : decode b_MO_isRight 97 = .ok (.goto (-29), 3) := by decide +kernel
theorem d_MO_isRight_100 : decode b_MO_isRight 100 = .ok (.aload_n 0, 1) := by decide +kernel
theorem d_MO_isRight_101 : decode b_MO_isRight 101 = .ok (.aload_n 1, 1) := by decide +kernel
theorem d_MO_isRight_102 : decode b_MO_isRight 102 = .ok (.iload_n 2, 1) := by decide +kernel
theorem d_MO_isRight_103 : decode b_MO_isRight 103 = .ok (.bipush 12, 2) := by decide +kernel
theorem d_MO_isRight_105 : decode b_MO_isRight 105 = .ok (.iadd, 1) := by decide +kernel
theorem d_MO_isRight_106 : decode b_MO_isRight 106 = .ok (.iaload, 1) := by decide +kernel
theorem d_MO_isRight_107 : decode b_MO_isRight 107 = .ok (.invokevirtual 64, 3) := by decide +kernel
theorem d_MO_isRight_110 : decode b_MO_isRight 110 = .ok (.lstore 4, 2) := by decide +kernel
theorem d_MO_isRight_112 : decode b_MO_isRight 112 = .ok (.iconst 0, 1) := by decide +kernel
theorem d_MO_isRight_113 : decode b_MO_isRight 113 = .ok (.istore 6, 2) := by decide +kernel
theorem d_MO_isRight_115 : decode b_MO_isRight 115 = .ok (.iload 6, 2) := by decide +kernel
theorem d_MO_isRight_117 : decode b_MO_isRight 117 = .ok (.bipush 56, 2) := by decide +kernel
theorem d_MO_isRight_119 : decode b_MO_isRight 119 = .ok (.if_icmp .ge 22, 3) := by decide +kernel
theorem d_MO_isRight_122 : decode b_MO_isRight 122 = .ok (.lload 4, 2) := by decide +kernel
theorem d_MO_isRight_124 : decode b_MO_isRight 124 = .ok (.aload_n 1, 1) := by decide +kernel
theorem d_MO_isRight_125 : decode b_MO_isRight 125 = .ok (.iload_n 2, 1) := by decide +kernel
theorem d_MO_isRight_126 : decode b_MO_isRight 126 = .ok (.iload 6, 2) := by decide +kernel
theorem d_MO_isRight_128 : decode b_MO_isRight 128 = .ok (.iadd, 1) := by decide +kernel
theorem d_MO_isRight_129 : decode b_MO_isRight 129 = .ok (.iaload, 1) := by decide +kernel
theorem d_MO_isRight_130 : decode b_MO_isRight 130 = .ok (.invokestatic 44, 3) := by decide +kernel
theorem d_MO_isRight_133 : decode b_MO_isRight 133 = .ok (.lstore 4, 2) := by decide +kernel
theorem d_MO_isRight_135 : decode b_MO_isRight 135 = .ok (.iinc 6 1, 3) := by decide +kernel
theorem d_MO_isRight_138 : decode b_MO_isRight 138 = .ok (.goto (-23), 3) := by decide +kernel
theorem d_MO_isRight_141 : decode b_MO_isRight 141 = .ok (.aload_n 0, 1) := by decide +kernel
theorem d_MO_isRight_142 : decode b_MO_isRight 142 = .ok (.invokevirtual 80, 3) := by decide +kernel
theorem d_MO_isRight_145 : decode b_MO_isRight 145 = .ok (.istore 6, 2) := by decide +kernel
theorem d_MO_isRight_147 : decode b_MO_isRight 147 = .ok (.iload 6, 2) := by decide +kernel
theorem d_MO_isRight_149 : decode b_MO_isRight 149 = .ok (.iconst (-1), 1) := by decide +kernel
theorem d_MO_isRight_150 : decode b_MO_isRight 150 = .ok (.if_icmp .eq 30, 3) := by decide +kernel
theorem d_MO_isRight_153 : decode b_MO_isRight 153 = .ok (.aload_n 0, 1) := by decide +kernel
theorem d_MO_isRight_154 : decode b_MO_isRight 154 = .ok (.getfield 7, 3) := by decide +kernel
theorem d_MO_isRight_157 : decode b_MO_isRight 157 = .ok (.iload 6, 2) := by decide +kernel
theorem d_MO_isRight_159 : decode b_MO_isRight 159 = .ok (.bipush 7, 2) := by decide +kernel
theorem d_MO_isRight_161 : decode b_MO_isRight 161 = .ok (.iadd, 1) := by decide +kernel
theorem d_MO_isRight_162 : decode b_MO_isRight 162 = .ok (.iaload, 1) := by decide +kernel
theorem d_MO_isRight_163 : decode b_MO_isRight 163 = .ok (.aload_n 1, 1) := by decide +kernel
theorem d_MO_isRight_164 : decode b_MO_isRight 164 = .ok (.iload_n 2, 1) := by decide +kernel
theorem d_MO_isRight_165 : decode b_MO_isRight 165 = .ok (.bipush 12, 2) := by decide +kernel
theorem d_MO_isRight_167 : decode b_MO_isRight 167 = .ok (.iadd, 1) := by decide +kernel
theorem d_MO_isRight_168 : decode b_MO_isRight 168 = .ok (.iaload, 1) := by decide +kernel
theorem d_MO_isRight_169 : decode b_MO_isRight 169 = .ok (.ishr, 1) := by decide +kernel
theorem d_MO_isRight_170 : decode b_MO_isRight 170 = .ok (.iconst 1, 1) := by decide +kernel
