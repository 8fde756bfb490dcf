theorem d_MO_isRight_171 : decode b_MO_isRight 171 = .ok (.iand, 1) := by decide +kernel
theorem d_MO_isRight_172 : decode b_MO_isRight 172 = .ok (.iconst 1, 1) := by decide +kernel
theorem d_MO_isRight_173 : decode b_MO_isRight 173 = .ok (.if_icmp .ne 7, 3) := by decide +kernel
theorem d_MO_isRight_176 : decode b_MO_isRight 176 = .ok (.iconst 1, 1) := by decide +kernel
theorem d_MO_isRight_177 : decode b_MO_isRight 177 = .ok (.goto 4, 3) := by decide +kernel
theorem d_MO_isRight_180 : decode b_MO_isRight 180 = .ok (.iconst 0, 1) := by decide +kernel
theorem d_MO_isRight_181 : decode b_MO_isRight 181 = .ok (.istore 7, 2) := by decide +kernel
theorem d_MO_isRight_183 : decode b_MO_isRight 183 = .ok (.iload_n 3, 1) := by decide +kernel
theorem d_MO_isRight_184 : decode b_MO_isRight 184 = .ok (.ifCond .eq 29, 3) := by decide +kernel
theorem d_MO_isRight_187 : decode b_MO_isRight 187 = .ok (.lload 4, 2) := by decide +kernel
theorem d_MO_isRight_189 : decode b_MO_isRight 189 = .ok (.aload_n 0, 1) := by decide +kernel
theorem d_MO_isRight_190 : decode b_MO_isRight 190 = .ok (.aload_n 1, 1) := by decide +kernel
theorem d_MO_isRight_191 : decode b_MO_isRight 191 = .ok (.iload_n 2, 1) := by decide +kernel
theorem d_MO_isRight_192 : decode b_MO_isRight 192 = .ok (.bipush 56, 2) := by decide +kernel
theorem d_MO_isRight_194 : decode b_MO_isRight 194 = .ok (.iadd, 1) := by decide +kernel
theorem d_MO_isRight_195 : decode b_MO_isRight 195 = .ok (.bipush 8, 2) := by decide +kernel
theorem d_MO_isRight_197 : decode b_MO_isRight 197 = .ok (.invokevirtual 68, 3) := by decide +kernel
theorem d_MO_isRight_200 : decode b_MO_isRight 200 = .ok (.lcmp, 1) := by decide +kernel
theorem d_MO_isRight_201 : decode b_MO_isRight 201 = .ok (.ifCond .ne 12, 3) := by decide +kernel
theorem d_MO_isRight_204 : decode b_MO_isRight 204 = .ok (.iload 7, 2) := by decide +kernel
theorem d_MO_isRight_206 : decode b_MO_isRight 206 = .ok (.ifCond .ne 7, 3) := by decide +kernel
theorem d_MO_isRight_209 : decode b_MO_isRight 209 = .ok (.iconst 1, 1) := by decide +kernel
theorem d_MO_isRight_210 : decode b_MO_isRight 210 = .ok (.goto 4, 3) := by decide +kernel
theorem d_MO_isRight_213 : decode b_MO_isRight 213 = .ok (.iconst 0, 1) := by decide +kernel
theorem d_MO_isRight_214 : decode b_MO_isRight 214 = .ok (.ireturn, 1) := by decide +kernel
theorem d_MO_headOf_0 : decode b_MO_headOf 0 = .ok (.bipush 64, 2) := by decide +kernel
theorem d_MO_headOf_2 : decode b_MO_headOf 2 = .ok (.iload_n 0, 1) := by decide +kernel
theorem d_MO_headOf_3 : decode b_MO_headOf 3 = .ok (.ifCond .ne 7, 3) := by decide +kernel
theorem d_MO_headOf_6 : decode b_MO_headOf 6 = .ok (.iconst 2, 1) := by decide +kernel
theorem d_MO_headOf_7 : decode b_MO_headOf 7 = .ok (.goto 5, 3) := by decide +kernel
theorem d_MO_headOf_10 : decode b_MO_headOf 10 = .ok (.bipush 33, 2) := by decide +kernel
theorem d_MO_headOf_12 : decode b_MO_headOf 12 = .ok (.imul, 1) := by decide +kernel
theorem d_MO_headOf_13 : decode b_MO_headOf 13 = .ok (.ireturn, 1) := by decide +kernel
theorem d_MO_counter_0 : decode b_MO_counter 0 = .ok (.aload_n 0, 1) := by decide +kernel
theorem d_MO_counter_1 : decode b_MO_counter 1 = .ok (.invokevirtual 80, 3) := by decide +kernel
theorem d_MO_counter_4 : decode b_MO_counter 4 = .ok (.istore_n 1, 1) := by decide +kernel
theorem d_MO_counter_5 : decode b_MO_counter 5 = .ok (.iload_n 1, 1) := by decide +kernel
theorem d_MO_counter_6 : decode b_MO_counter 6 = .ok (.iconst (-1), 1) := by decide +kernel
theorem d_MO_counter_7 : decode b_MO_counter 7 = .ok (.if_icmp .ne 7, 3) := by decide +kernel
theorem d_MO_counter_10 : decode b_MO_counter 10 = .ok (.lconst 0, 1) := by decide +kernel
theorem d_MO_counter_11 : decode b_MO_counter 11 = .ok (.goto 16, 3) := by decide +kernel
theorem d_MO_counter_14 : decode b_MO_counter 14 = .ok (.aload_n 0, 1) := by decide +kernel
theorem d_MO_counter_15 : decode b_MO_counter 15 = .ok (.aload_n 0, 1) := by decide +kernel
theorem d_MO_counter_16 : decode b_MO_counter 16 = .ok (.getfield 7, 3) := by decide +kernel
theorem d_MO_counter_19 : decode b_MO_counter 19 = .ok (.iload_n 1, 1) := by decide +kernel
theorem d_MO_counter_20 : decode b_MO_counter 20 = .ok (.bipush 8, 2) := by decide +kernel
theorem d_MO_counter_22 : decode b_MO_counter 22 = .ok (.iadd, 1) := by decide +kernel
theorem d_MO_counter_23 : decode b_MO_counter 23 = .ok (.iconst 4, 1) := by decide +kernel
theorem d_MO_counter_24 : decode b_MO_counter 24 = .ok (.invokevirtual 68, 3) := by decide +kernel
theorem d_MO_counter_27 : decode b_MO_counter 27 = .ok (.lreturn, 1) := by decide +kernel
theorem d_MO_bodyOf_0 : decode b_MO_bodyOf 0 = .ok (.aload_n 0, 1) := by decide +kernel
theorem d_MO_bodyOf_1 : decode b_MO_bodyOf 1 = .ok (.aload_n 2, 1) := by decide +kernel
theorem d_MO_bodyOf_2 : decode b_MO_bodyOf 2 = .ok (.iload_n 3, 1) := by decide +kernel
theorem d_MO_bodyOf_3 : decode b_MO_bodyOf 3 = .ok (.iconst 4, 1) := by decide +kernel
theorem d_MO_bodyOf_4 : decode b_MO_bodyOf 4 = .ok (.iadd, 1) := by decide +kernel
theorem d_MO_bodyOf_5 : decode b_MO_bodyOf 5 = .ok (.iconst 4, 1) := by decide +kernel
theorem d_MO_bodyOf_6 : decode b_MO_bodyOf 6 = .ok (.invokevirtual 68, 3) := by decide +kernel
theorem d_MO_bodyOf_9 : decode b_MO_bodyOf 9 = .ok (.lstore 4, 2) := by decide +kernel
theorem d_MO_bodyOf_11 : decode b_MO_bodyOf 11 = .ok (.bipush 64, 2) := by decide +kernel
theorem d_MO_bodyOf_13 : decode b_MO_bodyOf 13 = .ok (.aload_n 0, 1) := by decide +kernel
theorem d_MO_bodyOf_14 : decode b_MO_bodyOf 14 = .ok (.aload_n 2, 1) := by decide +kernel
theorem d_MO_bodyOf_15 : decode b_MO_bodyOf 15 = .ok (.iload_n 3, 1) := by decide +kernel
theorem d_MO_bodyOf_16 : decode b_MO_bodyOf 16 = .ok (.bipush 8, 2) := by decide +kernel
theorem d_MO_bodyOf_18 : decode b_MO_bodyOf 18 = .ok (.iadd, 1) := by decide +kernel
theorem d_MO_bodyOf_19 : decode b_MO_bodyOf 19 = .ok (.iconst 4, 1) := by decide +kernel
theorem d_MO_bodyOf_20 : decode b_MO_bodyOf 20 = .ok (.invokevirtual 68, 3) := by decide +kernel
theorem d_MO_bodyOf_23 : decode b_MO_bodyOf 23 = .ok (.l2i, 1) := by decide +kernel
theorem d_MO_bodyOf_24 : decode b_MO_bodyOf 24 = .ok (.imul, 1) := by decide +kernel
theorem d_MO_bodyOf_25 : decode b_MO_bodyOf 25 = .ok (.istore 6, 2) := by decide +kernel
theorem d_MO_bodyOf_27 : decode b_MO_bodyOf 27 = .ok (.iconst 0, 1) := by decide +kernel
theorem d_MO_bodyOf_28 : decode b_MO_bodyOf 28 = .ok (.istore 7, 2) := by decide +kernel
theorem d_MO_bodyOf_30 : decode b_MO_bodyOf 30 = .ok (.iload 7, 2) := by decide +kernel
theorem d_MO_bodyOf_32 : decode b_MO_bodyOf 32 = .ok (.iload 6, 2) := by decide +kernel
theorem d_MO_bodyOf_34 : decode b_MO_bodyOf 34 = .ok (.if_icmp .ge 31, 3) := by decide +kernel
theorem d_MO_bodyOf_37 : decode b_MO_bodyOf 37 = .ok (.lload 4, 2) := by decide +kernel
theorem d_MO_bodyOf_39 : decode b_MO_bodyOf 39 = .ok (.aload_n 0, 1) := by decide +kernel
theorem d_MO_bodyOf_40 : decode b_MO_bodyOf 40 = .ok (.getfield 7, 3) := by decide +kernel
theorem d_MO_bodyOf_43 : decode b_MO_bodyOf 43 = .ok (.iload_n 1, 1) := by decide +kernel
theorem d_MO_bodyOf_44 : decode b_MO_bodyOf 44 = .ok (.invokestatic 84, 3) := by decide +kernel
theorem d_MO_bodyOf_47 : decode b_MO_bodyOf 47 = .ok (.bipush 64, 2) := by decide +kernel
theorem d_MO_bodyOf_49 : decode b_MO_bodyOf 49 = .ok (.iadd, 1) := by decide +kernel
theorem d_MO_bodyOf_50 : decode b_MO_bodyOf 50 = .ok (.iload 7, 2) := by decide +kernel
theorem d_MO_bodyOf_52 : decode b_MO_bodyOf 52 = .ok (.iadd, 1) := by decide +kernel
theorem d_MO_bodyOf_53 : decode b_MO_bodyOf 53 = .ok (.iaload, 1) := by decide +kernel
theorem d_MO_bodyOf_54 : decode b_MO_bodyOf 54 = .ok (.invokestatic 44, 3) := by decide +kernel
theorem d_MO_bodyOf_57 : decode b_MO_bodyOf 57 = .ok (.lstore 4, 2) := by decide +kernel
theorem d_MO_bodyOf_59 : decode b_MO_bodyOf 59 = .ok (.iinc 7 1, 3) := by decide +kernel
theorem d_MO_bodyOf_62 : decode b_MO_bodyOf 62 = .ok (.goto (-32), 3) := by decide +kernel
theorem d_MO_bodyOf_65 : decode b_MO_bodyOf 65 = .ok (.lload 4, 2) := by decide +kernel
theorem d_MO_bodyOf_67 : decode b_MO_bodyOf 67 = .ok (.lreturn, 1) := by decide +kernel
theorem d_MO_isGood_0 : decode b_MO_isGood 0 = .ok (.iload_n 1, 1) := by decide +kernel
theorem d_MO_isGood_1 : decode b_MO_isGood 1 = .ok (.i2l, 1) := by decide +kernel
theorem d_MO_isGood_2 : decode b_MO_isGood 2 = .ok (.lconst 0, 1) := by decide +kernel
theorem d_MO_isGood_3 : decode b_MO_isGood 3 = .ok (.lconst 1, 1) := by decide +kernel
theorem d_MO_isGood_4 : decode b_MO_isGood 4 = .ok (.invokestatic 76, 3) := by decide +kernel
theorem d_MO_isGood_7 : decode b_MO_isGood 7 = .ok (.ifCond .ne 5, 3) := by decide +kernel
theorem d_MO_isGood_10 : decode b_MO_isGood 10 = .ok (.iconst 0, 1) := by decide +kernel
theorem d_MO_isGood_11 : decode b_MO_isGood 11 = .ok (.ireturn, 1) := by decide +kernel
theorem d_MO_isGood_12 : decode b_MO_isGood 12 = .ok (.iload_n 1, 1) := by decide +kernel
theorem d_MO_isGood_13 : decode b_MO_isGood 13 = .ok (.invokestatic 84, 3) := by decide +kernel
theorem d_MO_isGood_16 : decode b_MO_isGood 16 = .ok (.istore_n 2, 1) := by decide +kernel
theorem d_MO_isGood_17 : decode b_MO_isGood 17 = .ok (.aload_n 0, 1) := by decide +kernel
theorem d_MO_isGood_18 : decode b_MO_isGood 18 = .ok (.aload_n 0, 1) := by decide +kernel
theorem d_MO_isGood_19 : decode b_MO_isGood 19 = .ok (.getfield 7, 3) := by decide +kernel
theorem d_MO_isGood_22 : decode b_MO_isGood 22 = .ok (.iload_n 2, 1) := by decide +kernel
theorem d_MO_isGood_23 : decode b_MO_isGood 23 = .ok (.invokevirtual 88, 3) := by decide +kernel
theorem d_MO_isGood_26 : decode b_MO_isGood 26 = .ok (.ifCond .eq 55, 3) := by decide +kernel
theorem d_MO_isGood_29 : decode b_MO_isGood 29 = .ok (.aload_n 0, 1) := by decide +kernel
theorem d_MO_isGood_30 : decode b_MO_isGood 30 = .ok (.aload_n 0, 1) := by decide +kernel
theorem d_MO_isGood_31 : decode b_MO_isGood 31 = .ok (.getfield 7, 3) := by decide +kernel
theorem d_MO_isGood_34 : decode b_MO_isGood 34 = .ok (.iload_n 2, 1) := by decide +kernel
theorem d_MO_isGood_35 : decode b_MO_isGood 35 = .ok (.iconst 4, 1) := by decide +kernel
theorem d_MO_isGood_36 : decode b_MO_isGood 36 = .ok (.iadd, 1) := by decide +kernel
theorem d_MO_isGood_37 : decode b_MO_isGood 37 = .ok (.iconst 4, 1) := by decide +kernel
theorem d_MO_isGood_38 : decode b_MO_isGood 38 = .ok (.invokevirtual 68, 3) := by decide +kernel
theorem d_MO_isGood_41 : decode b_MO_isGood 41 = .ok (.aload_n 0, 1) := by decide +kernel
theorem d_MO_isGood_42 : decode b_MO_isGood 42 = .ok (.invokevirtual 92, 3) := by decide +kernel
theorem d_MO_isGood_45 : decode b_MO_isGood 45 = .ok (.lcmp, 1) := by decide +kernel
theorem d_MO_isGood_46 : decode b_MO_isGood 46 = .ok (.ifCond .lt 35, 3) := by decide +kernel
theorem d_MO_isGood_49 : decode b_MO_isGood 49 = .ok (.aload_n 0, 1) := by decide +kernel
theorem d_MO_isGood_50 : decode b_MO_isGood 50 = .ok (.iload_n 1, 1) := by decide +kernel
theorem d_MO_isGood_51 : decode b_MO_isGood 51 = .ok (.aload_n 0, 1) := by decide +kernel
theorem d_MO_isGood_52 : decode b_MO_isGood 52 = .ok (.getfield 7, 3) := by decide +kernel
theorem d_MO_isGood_55 : decode b_MO_isGood 55 = .ok (.iload_n 2, 1) := by decide +kernel
theorem d_MO_isGood_56 : decode b_MO_isGood 56 = .ok (.invokevirtual 96, 3) := by decide +kernel
theorem d_MO_isGood_59 : decode b_MO_isGood 59 = .ok (.aload_n 0, 1) := by decide +kernel
theorem d_MO_isGood_60 : decode b_MO_isGood 60 = .ok (.aload_n 0, 1) := by decide +kernel
theorem d_MO_isGood_61 : decode b_MO_isGood 61 = .ok (.getfield 7, 3) := by decide +kernel
theorem d_MO_isGood_64 : decode b_MO_isGood 64 = .ok (.iload_n 2, 1) := by decide +kernel
theorem d_MO_isGood_65 : decode b_MO_isGood 65 = .ok (.bipush 20, 2) := by decide +kernel
theorem d_MO_isGood_67 : decode b_MO_isGood 67 = .ok (.iadd, 1) := by decide +kernel
theorem d_MO_isGood_68 : decode b_MO_isGood 68 = .ok (.bipush 8, 2) := by decide +kernel
theorem d_MO_isGood_70 : decode b_MO_isGood 70 = .ok (.invokevirtual 68, 3) := by decide +kernel
theorem d_MO_isGood_73 : decode b_MO_isGood 73 = .ok (.lcmp, 1) := by decide +kernel
theorem d_MO_isGood_74 : decode b_MO_isGood 74 = .ok (.ifCond .ne 7, 3) := by decide +kernel
theorem d_MO_isGood_77 : decode b_MO_isGood 77 = .ok (.iconst 1, 1) := by decide +kernel
theorem d_MO_isGood_78 : decode b_MO_isGood 78 = .ok (.goto 4, 3) := by decide +kernel
theorem d_MO_isGood_81 : decode b_MO_isGood 81 = .ok (.iconst 0, 1) := by decide +kernel
theorem d_MO_isGood_82 : decode b_MO_isGood 82 = .ok (.ireturn, 1) := by decide +kernel
theorem d_MO_lineIs_0 : decode b_MO_lineIs 0 = .ok (.aload_n 0, 1) := by decide +kernel
theorem d_MO_lineIs_1 : decode b_MO_lineIs 1 = .ok (.aload_n 0, 1) := by decide +kernel
theorem d_MO_lineIs_2 : decode b_MO_lineIs 2 = .ok (.getfield 35, 3) := by decide +kernel
theorem d_MO_lineIs_5 : decode b_MO_lineIs 5 = .ok (.iconst 0, 1) := by decide +kernel
theorem d_MO_lineIs_6 : decode b_MO_lineIs 6 = .ok (.lload_n 1, 1) := by decide +kernel
theorem d_MO_lineIs_7 : decode b_MO_lineIs 7 = .ok (.iconst 4, 1) := by decide +kernel
theorem d_MO_lineIs_8 : decode b_MO_lineIs 8 = .ok (.invokevirtual 60, 3) := by decide +kernel
theorem d_MO_lineIs_11 : decode b_MO_lineIs 11 = .ok (.aload_n 0, 1) := by decide +kernel
theorem d_MO_lineIs_12 : decode b_MO_lineIs 12 = .ok (.getfield 35, 3) := by decide +kernel
theorem d_MO_lineIs_15 : decode b_MO_lineIs 15 = .ok (.iconst 4, 1) := by decide +kernel
theorem d_MO_lineIs_16 : decode b_MO_lineIs 16 = .ok (.iload_n 3, 1) := by decide +kernel
theorem d_MO_lineIs_17 : decode b_MO_lineIs 17 = .ok (.iastore, 1) := by decide +kernel
theorem d_MO_lineIs_18 : decode b_MO_lineIs 18 = .ok (.aload_n 0, 1) := by decide +kernel
theorem d_MO_lineIs_19 : decode b_MO_lineIs 19 = .ok (.getfield 35, 3) := by decide +kernel
theorem d_MO_lineIs_22 : decode b_MO_lineIs 22 = .ok (.iconst 5, 1) := by decide +kernel
theorem d_MO_lineIs_23 : decode b_MO_lineIs 23 = .ok (.iload 4, 2) := by decide +kernel
theorem d_MO_lineIs_25 : decode b_MO_lineIs 25 = .ok (.iastore, 1) := by decide +kernel
theorem d_MO_lineIs_26 : decode b_MO_lineIs 26 = .ok (.aload_n 0, 1) := by decide +kernel
theorem d_MO_lineIs_27 : decode b_MO_lineIs 27 = .ok (.getfield 35, 3) := by decide +kernel
theorem d_MO_lineIs_30 : decode b_MO_lineIs 30 = .ok (.bipush 6, 2) := by decide +kernel
theorem d_MO_lineIs_32 : decode b_MO_lineIs 32 = .ok (.iload 5, 2) := by decide +kernel
theorem d_MO_lineIs_34 : decode b_MO_lineIs 34 = .ok (.iastore, 1) := by decide +kernel
theorem d_MO_lineIs_35 : decode b_MO_lineIs 35 = .ok (.aload_n 0, 1) := by decide +kernel
theorem d_MO_lineIs_36 : decode b_MO_lineIs 36 = .ok (.getfield 35, 3) := by decide +kernel
theorem d_MO_lineIs_39 : decode b_MO_lineIs 39 = .ok (.bipush 7, 2) := by decide +kernel
theorem d_MO_lineIs_41 : decode b_MO_lineIs 41 = .ok (.iload 6, 2) := by decide +kernel
theorem d_MO_lineIs_43 : decode b_MO_lineIs 43 = .ok (.iastore, 1) := by decide +kernel
theorem d_MO_lineIs_44 : decode b_MO_lineIs 44 = .ok (.aload_n 0, 1) := by decide +kernel
theorem d_MO_lineIs_45 : decode b_MO_lineIs 45 = .ok (.aload_n 0, 1) := by decide +kernel
theorem d_MO_lineIs_46 : decode b_MO_lineIs 46 = .ok (.getfield 35, 3) := by decide +kernel
theorem d_MO_lineIs_49 : decode b_MO_lineIs 49 = .ok (.bipush 8, 2) := by decide +kernel
theorem d_MO_lineIs_51 : decode b_MO_lineIs 51 = .ok (.lload 7, 2) := by decide +kernel
theorem d_MO_lineIs_53 : decode b_MO_lineIs 53 = .ok (.iconst 4, 1) := by decide +kernel
theorem d_MO_lineIs_54 : decode b_MO_lineIs 54 = .ok (.invokevirtual 60, 3) := by decide +kernel
theorem d_MO_lineIs_57 : decode b_MO_lineIs 57 = .ok (.aload_n 0, 1) := by decide +kernel
theorem d_MO_lineIs_58 : decode b_MO_lineIs 58 = .ok (.getfield 35, 3) := by decide +kernel
theorem d_MO_lineIs_61 : decode b_MO_lineIs 61 = .ok (.bipush 12, 2) := by decide +kernel
theorem d_MO_lineIs_63 : decode b_MO_lineIs 63 = .ok (.iconst 0, 1) := by decide +kernel
theorem d_MO_lineIs_64 : decode b_MO_lineIs 64 = .ok (.iastore, 1) := by decide +kernel
theorem d_MO_lineIs_65 : decode b_MO_lineIs 65 = .ok (.aload_n 0, 1) := by decide +kernel
theorem d_MO_lineIs_66 : decode b_MO_lineIs 66 = .ok (.getfield 35, 3) := by decide +kernel
theorem d_MO_lineIs_69 : decode b_MO_lineIs 69 = .ok (.bipush 13, 2) := by decide +kernel
theorem d_MO_lineIs_71 : decode b_MO_lineIs 71 = .ok (.iconst 0, 1) := by decide +kernel
theorem d_MO_lineIs_72 : decode b_MO_lineIs 72 = .ok (.iastore, 1) := by decide +kernel
theorem d_MO_lineIs_73 : decode b_MO_lineIs 73 = .ok (.aload_n 0, 1) := by decide +kernel
theorem d_MO_lineIs_74 : decode b_MO_lineIs 74 = .ok (.getfield 35, 3) := by decide +kernel
theorem d_MO_lineIs_77 : decode b_MO_lineIs 77 = .ok (.bipush 14, 2) := by decide +kernel
theorem d_MO_lineIs_79 : decode b_MO_lineIs 79 = .ok (.iconst 0, 1) := by decide +kernel
theorem d_MO_lineIs_80 : decode b_MO_lineIs 80 = .ok (.iastore, 1) := by decide +kernel
theorem d_MO_lineIs_81 : decode b_MO_lineIs 81 = .ok (.aload_n 0, 1) := by decide +kernel
theorem d_MO_lineIs_82 : decode b_MO_lineIs 82 = .ok (.getfield 35, 3) := by decide +kernel
theorem d_MO_lineIs_85 : decode b_MO_lineIs 85 = .ok (.bipush 15, 2) := by decide +kernel
theorem d_MO_lineIs_87 : decode b_MO_lineIs 87 = .ok (.bipush 90, 2) := by decide +kernel
theorem d_MO_lineIs_89 : decode b_MO_lineIs 89 = .ok (.iastore, 1) := by decide +kernel
theorem d_MO_lineIs_90 : decode b_MO_lineIs 90 = .ok (.return_, 1) := by decide +kernel
theorem d_MO_goes_0 : decode b_MO_goes 0 = .ok (.aload_n 0, 1) := by decide +kernel
theorem d_MO_goes_1 : decode b_MO_goes 1 = .ok (.getfield 29, 3) := by decide +kernel
theorem d_MO_goes_4 : decode b_MO_goes 4 = .ok (.iconst 0, 1) := by decide +kernel
theorem d_MO_goes_5 : decode b_MO_goes 5 = .ok (.dup2, 1) := by decide +kernel
theorem d_MO_goes_6 : decode b_MO_goes 6 = .ok (.iaload, 1) := by decide +kernel
theorem d_MO_goes_7 : decode b_MO_goes 7 = .ok (.iconst 1, 1) := by decide +kernel
theorem d_MO_goes_8 : decode b_MO_goes 8 = .ok (.iadd, 1) := by decide +kernel
theorem d_MO_goes_9 : decode b_MO_goes 9 = .ok (.iastore, 1) := by decide +kernel
theorem d_MO_goes_10 : decode b_MO_goes 10 = .ok (.aload_n 0, 1) := by decide +kernel
theorem d_MO_goes_11 : decode b_MO_goes 11 = .ok (.getfield 13, 3) := by decide +kernel
theorem d_MO_goes_14 : decode b_MO_goes 14 = .ok (.ifCond .ne 7, 3) := by decide +kernel
theorem d_MO_goes_17 : decode b_MO_goes 17 = .ok (.iconst 1, 1) := by decide +kernel
theorem d_MO_goes_18 : decode b_MO_goes 18 = .ok (.goto 4, 3) := by decide +kernel
theorem d_MO_goes_21 : decode b_MO_goes 21 = .ok (.iconst 0, 1) := by decide +kernel
theorem d_MO_goes_22 : decode b_MO_goes 22 = .ok (.istore_n 2, 1) := by decide +kernel
theorem d_MO_goes_23 : decode b_MO_goes 23 = .ok (.aload_n 0, 1) := by decide +kernel
theorem d_MO_goes_24 : decode b_MO_goes 24 = .ok (.aload_n 0, 1) := by decide +kernel
theorem d_MO_goes_25 : decode b_MO_goes 25 = .ok (.getfield 13, 3) := by decide +kernel
theorem d_MO_goes_28 : decode b_MO_goes 28 = .ok (.iconst (-1), 1) := by decide +kernel
theorem d_MO_goes_29 : decode b_MO_goes 29 = .ok (.if_icmp .le 12, 3) := by decide +kernel
theorem d_MO_goes_32 : decode b_MO_goes 32 = .ok (.aload_n 0, 1) := by decide +kernel
theorem d_MO_goes_33 : decode b_MO_goes 33 = .ok (.getfield 13, 3) := by decide +kernel
theorem d_MO_goes_36 : decode b_MO_goes 36 = .ok (.iconst 1, 1) := by decide +kernel
theorem d_MO_goes_37 : decode b_MO_goes 37 = .ok (.isub, 1) := by decide +kernel
theorem d_MO_goes_38 : decode b_MO_goes 38 = .ok (.goto 4, 3) := by decide +kernel
theorem d_MO_goes_41 : decode b_MO_goes 41 = .ok (.iconst (-1), 1) := by decide +kernel
theorem d_MO_goes_42 : decode b_MO_goes 42 = .ok (.putfield 13, 3) := by decide +kernel
theorem d_MO_goes_45 : decode b_MO_goes 45 = .ok (.iload_n 2, 1) := by decide +kernel
theorem d_MO_goes_46 : decode b_MO_goes 46 = .ok (.ifCond .ne 5, 3) := by decide +kernel
theorem d_MO_goes_49 : decode b_MO_goes 49 = .ok (.iload_n 1, 1) := by decide +kernel
theorem d_MO_goes_50 : decode b_MO_goes 50 = .ok (.ireturn, 1) := by decide +kernel
theorem d_MO_goes_51 : decode b_MO_goes 51 = .ok (.aload_n 0, 1) := by decide +kernel
theorem d_MO_goes_52 : decode b_MO_goes 52 = .ok (.iconst 1, 1) := by decide +kernel
theorem d_MO_goes_53 : decode b_MO_goes 53 = .ok (.putfield 100, 3) := by decide +kernel
theorem d_MO_goes_56 : decode b_MO_goes 56 = .ok (.aload_n 0, 1) := by decide +kernel
theorem d_MO_goes_57 : decode b_MO_goes 57 = .ok (.iconst (-1), 1) := by decide +kernel
theorem d_MO_goes_58 : decode b_MO_goes 58 = .ok (.putfield 13, 3) := by decide +kernel
theorem d_MO_goes_61 : decode b_MO_goes 61 = .ok (.aload_n 0, 1) := by decide +kernel
theorem d_MO_goes_62 : decode b_MO_goes 62 = .ok (.iconst (-1), 1) := by decide +kernel
theorem d_MO_goes_63 : decode b_MO_goes 63 = .ok (.putfield 17, 3) := by decide +kernel
theorem d_MO_goes_66 : decode b_MO_goes 66 = .ok (.aload_n 0, 1) := by decide +kernel
theorem d_MO_goes_67 : decode b_MO_goes 67 = .ok (.iconst 0, 1) := by decide +kernel
theorem d_MO_goes_68 : decode b_MO_goes 68 = .ok (.putfield 104, 3) := by decide +kernel
theorem d_MO_goes_71 : decode b_MO_goes 71 = .ok (.aload_n 0, 1) := by decide +kernel
theorem d_MO_goes_72 : decode b_MO_goes 72 = .ok (.iconst (-1), 1) := by decide +kernel
theorem d_MO_goes_73 : decode b_MO_goes 73 = .ok (.putfield 26, 3) := by decide +kernel
theorem d_MO_goes_76 : decode b_MO_goes 76 = .ok (.aload_n 0, 1) := by decide +kernel
theorem d_MO_goes_77 : decode b_MO_goes 77 = .ok (.iconst 0, 1) := by decide +kernel
theorem d_MO_goes_78 : decode b_MO_goes 78 = .ok (.putfield 107, 3) := by decide +kernel
theorem d_MO_goes_81 : decode b_MO_goes 81 = .ok (.aload_n 0, 1) := by decide +kernel
theorem d_MO_goes_82 : decode b_MO_goes 82 = .ok (.getfield 110, 3) := by decide +kernel
theorem d_MO_goes_85 : decode b_MO_goes 85 = .ok (.iload_n 1, 1) := by decide +kernel
theorem d_MO_goes_86 : decode b_MO_goes 86 = .ok (.irem, 1) := by decide +kernel
theorem d_MO_goes_87 : decode b_MO_goes 87 = .ok (.ireturn, 1) := by decide +kernel
theorem d_MO_erased_0 : decode b_MO_erased 0 = .ok (.aload_n 0, 1) := by decide +kernel
theorem d_MO_erased_1 : decode b_MO_erased 1 = .ok (.getfield 29, 3) := by decide +kernel
theorem d_MO_erased_4 : decode b_MO_erased 4 = .ok (.iconst 1, 1) := by decide +kernel
theorem d_MO_erased_5 : decode b_MO_erased 5 = .ok (.dup2, 1) := by decide +kernel
theorem d_MO_erased_6 : decode b_MO_erased 6 = .ok (.iaload, 1) := by decide +kernel
theorem d_MO_erased_7 : decode b_MO_erased 7 = .ok (.iconst 1, 1) := by decide +kernel
theorem d_MO_erased_8 : decode b_MO_erased 8 = .ok (.iadd, 1) := by decide +kernel
theorem d_MO_erased_9 : decode b_MO_erased 9 = .ok (.iastore, 1) := by decide +kernel
theorem d_MO_erased_10 : decode b_MO_erased 10 = .ok (.aload_n 0, 1) := by decide +kernel
theorem d_MO_erased_11 : decode b_MO_erased 11 = .ok (.bipush 64, 2) := by decide +kernel
theorem d_MO_erased_13 : decode b_MO_erased 13 = .ok (.invokevirtual 113, 3) := by decide +kernel
theorem d_MO_erased_16 : decode b_MO_erased 16 = .ok (.istore_n 2, 1) := by decide +kernel
theorem d_MO_erased_17 : decode b_MO_erased 17 = .ok (.iconst 0, 1) := by decide +kernel
theorem d_MO_erased_18 : decode b_MO_erased 18 = .ok (.istore_n 3, 1) := by decide +kernel
theorem d_MO_erased_19 : decode b_MO_erased 19 = .ok (.iload_n 3, 1) := by decide +kernel
theorem d_MO_erased_20 : decode b_MO_erased 20 = .ok (.iload_n 2, 1) := by decide +kernel
theorem d_MO_erased_21 : decode b_MO_erased 21 = .ok (.if_icmp .ge 23, 3) := by decide +kernel
theorem d_MO_erased_24 : decode b_MO_erased 24 = .ok (.aload_n 0, 1) := by decide +kernel
theorem d_MO_erased_25 : decode b_MO_erased 25 = .ok (.getfield 7, 3) := by decide +kernel
theorem d_MO_erased_28 : decode b_MO_erased 28 = .ok (.bipush 64, 2) := by decide +kernel
theorem d_MO_erased_30 : decode b_MO_erased 30 = .ok (.iload_n 1, 1) := by decide +kernel
theorem d_MO_erased_31 : decode b_MO_erased 31 = .ok (.imul, 1) := by decide +kernel
theorem d_MO_erased_32 : decode b_MO_erased 32 = .ok (.iload_n 3, 1) := by decide +kernel
theorem d_MO_erased_33 : decode b_MO_erased 33 = .ok (.iadd, 1) := by decide +kernel
theorem d_MO_erased_34 : decode b_MO_erased 34 = .ok (.sipush 255, 3) := by decide +kernel
theorem d_MO_erased_37 : decode b_MO_erased 37 = .ok (.iastore, 1) := by decide +kernel
theorem d_MO_erased_38 : decode b_MO_erased 38 = .ok (.iinc 3 1, 3) := by decide +kernel
theorem d_MO_erased_41 : decode b_MO_erased 41 = .ok (.goto (-22), 3) := by decide +kernel
theorem d_MO_erased_44 : decode b_MO_erased 44 = .ok (.aload_n 0, 1) := by decide +kernel
theorem d_MO_erased_45 : decode b_MO_erased 45 = .ok (.getfield 100, 3) := by decide +kernel
theorem d_MO_erased_48 : decode b_MO_erased 48 = .ok (.ifCond .ne 7, 3) := by decide +kernel
theorem d_MO_erased_51 : decode b_MO_erased 51 = .ok (.iconst 1, 1) := by decide +kernel
theorem d_MO_erased_52 : decode b_MO_erased 52 = .ok (.goto 4, 3) := by decide +kernel
theorem d_MO_erased_55 : decode b_MO_erased 55 = .ok (.iconst 0, 1) := by decide +kernel
theorem d_MO_erased_56 : decode b_MO_erased 56 = .ok (.ireturn, 1) := by decide +kernel
theorem d_MO_programmed_0 : decode b_MO_programmed 0 = .ok (.aload_n 0, 1) := by decide +kernel
theorem d_MO_programmed_1 : decode b_MO_programmed 1 = .ok (.bipush 16, 2) := by decide +kernel
theorem d_MO_programmed_3 : decode b_MO_programmed 3 = .ok (.invokevirtual 113, 3) := by decide +kernel
theorem d_MO_programmed_6 : decode b_MO_programmed 6 = .ok (.istore 4, 2) := by decide +kernel
theorem d_MO_programmed_8 : decode b_MO_programmed 8 = .ok (.iconst 0, 1) := by decide +kernel
theorem d_MO_programmed_9 : decode b_MO_programmed 9 = .ok (.istore 5, 2) := by decide +kernel
theorem d_MO_programmed_11 : decode b_MO_programmed 11 = .ok (.iload 5, 2) := by decide +kernel
theorem d_MO_programmed_13 : decode b_MO_programmed 13 = .ok (.iload 4, 2) := by decide +kernel
theorem d_MO_programmed_15 : decode b_MO_programmed 15 = .ok (.if_icmp .ge 27, 3) := by decide +kernel
theorem d_MO_programmed_18 : decode b_MO_programmed 18 = .ok (.aload_n 0, 1) := by decide +kernel
theorem d_MO_programmed_19 : decode b_MO_programmed 19 = .ok (.getfield 7, 3) := by decide +kernel
theorem d_MO_programmed_22 : decode b_MO_programmed 22 = .ok (.iload_n 1, 1) := by decide +kernel
theorem d_MO_programmed_23 : decode b_MO_programmed 23 = .ok (.iload 5, 2) := by decide +kernel
theorem d_MO_programmed_25 : decode b_MO_programmed 25 = .ok (.iadd, 1) := by decide +kernel
theorem d_MO_programmed_26 : decode b_MO_programmed 26 = .ok (.dup2, 1) := by decide +kernel
theorem d_MO_programmed_27 : decode b_MO_programmed 27 = .ok (.iaload, 1) := by decide +kernel
theorem d_MO_programmed_28 : decode b_MO_programmed 28 = .ok (.aload_n 2, 1) := by decide +kernel
theorem d_MO_programmed_29 : decode b_MO_programmed 29 = .ok (.iload_n 3, 1) := by decide +kernel
theorem d_MO_programmed_30 : decode b_MO_programmed 30 = .ok (.iload 5, 2) := by decide +kernel
theorem d_MO_programmed_32 : decode b_MO_programmed 32 = .ok (.iadd, 1) := by decide +kernel
theorem d_MO_programmed_33 : decode b_MO_programmed 33 = .ok (.iaload, 1) := by decide +kernel
theorem d_MO_programmed_34 : decode b_MO_programmed 34 = .ok (.iand, 1) := by decide +kernel
theorem d_MO_programmed_35 : decode b_MO_programmed 35 = .ok (.iastore, 1) := by decide +kernel
theorem d_MO_programmed_36 : decode b_MO_programmed 36 = .ok (.iinc 5 1, 3) := by decide +kernel
theorem d_MO_programmed_39 : decode b_MO_programmed 39 = .ok (.goto (-28), 3) := by decide +kernel
theorem d_MO_programmed_42 : decode b_MO_programmed 42 = .ok (.aload_n 0, 1) := by decide +kernel
theorem d_MO_programmed_43 : decode b_MO_programmed 43 = .ok (.getfield 100, 3) := by decide +kernel
theorem d_MO_programmed_46 : decode b_MO_programmed 46 = .ok (.ifCond .ne 7, 3) := by decide +kernel
theorem d_MO_programmed_49 : decode b_MO_programmed 49 = .ok (.iconst 1, 1) := by decide +kernel
theorem d_MO_programmed_50 : decode b_MO_programmed 50 = .ok (.goto 4, 3) := by decide +kernel
theorem d_MO_programmed_53 : decode b_MO_programmed 53 = .ok (.iconst 0, 1) := by decide +kernel
theorem d_MO_programmed_54 : decode b_MO_programmed 54 = .ok (.ireturn, 1) := by decide +kernel
theorem d_MO_isClean_0 : decode b_MO_isClean 0 = .ok (.iconst 0, 1) := by decide +kernel
theorem d_MO_isClean_1 : decode b_MO_isClean 1 = .ok (.istore_n 2, 1) := by decide +kernel
theorem d_MO_isClean_2 : decode b_MO_isClean 2 = .ok (.iload_n 2, 1) := by decide +kernel
theorem d_MO_isClean_3 : decode b_MO_isClean 3 = .ok (.bipush 16, 2) := by decide +kernel
theorem d_MO_isClean_5 : decode b_MO_isClean 5 = .ok (.if_icmp .ge 25, 3) := by decide +kernel
theorem d_MO_isClean_8 : decode b_MO_isClean 8 = .ok (.aload_n 0, 1) := by decide +kernel
theorem d_MO_isClean_9 : decode b_MO_isClean 9 = .ok (.getfield 7, 3) := by decide +kernel
theorem d_MO_isClean_12 : decode b_MO_isClean 12 = .ok (.iload_n 1, 1) := by decide +kernel
theorem d_MO_isClean_13 : decode b_MO_isClean 13 = .ok (.iload_n 2, 1) := by decide +kernel
theorem d_MO_isClean_14 : decode b_MO_isClean 14 = .ok (.iadd, 1) := by decide +kernel
theorem d_MO_isClean_15 : decode b_MO_isClean 15 = .ok (.iaload, 1) := by decide +kernel
theorem d_MO_isClean_16 : decode b_MO_isClean 16 = .ok (.sipush 255, 3) := by decide +kernel
theorem d_MO_isClean_19 : decode b_MO_isClean 19 = .ok (.if_icmp .eq 5, 3) := by decide +kernel
theorem d_MO_isClean_22 : decode b_MO_isClean 22 = .ok (.iconst 0, 1) := by decide +kernel
theorem d_MO_isClean_23 : decode b_MO_isClean 23 = .ok (.ireturn, 1) := by decide +kernel
theorem d_MO_isClean_24 : decode b_MO_isClean 24 = .ok (.iinc 2 1, 3) := by decide +kernel
theorem d_MO_isClean_27 : decode b_MO_isClean 27 = .ok (.goto (-25), 3) := by decide +kernel
theorem d_MO_isClean_30 : decode b_MO_isClean 30 = .ok (.iconst 1, 1) := by decide +kernel
theorem d_MO_isClean_31 : decode b_MO_isClean 31 = .ok (.ireturn, 1) := by decide +kernel
theorem d_MO_appended_0 : decode b_MO_appended 0 = .ok (.aload_n 0, 1) := by decide +kernel
theorem d_MO_appended_1 : decode b_MO_appended 1 = .ok (.invokevirtual 80, 3) := by decide +kernel
theorem d_MO_appended_4 : decode b_MO_appended 4 = .ok (.istore 7, 2) := by decide +kernel
theorem d_MO_appended_6 : decode b_MO_appended 6 = .ok (.aload_n 0, 1) := by decide +kernel
theorem d_MO_appended_7 : decode b_MO_appended 7 = .ok (.aload_n 0, 1) := by decide +kernel
theorem d_MO_appended_8 : decode b_MO_appended 8 = .ok (.aload_n 0, 1) := by decide +kernel
theorem d_MO_appended_9 : decode b_MO_appended 9 = .ok (.getfield 7, 3) := by decide +kernel
theorem d_MO_appended_12 : decode b_MO_appended 12 = .ok (.iload 7, 2) := by decide +kernel
theorem d_MO_appended_14 : decode b_MO_appended 14 = .ok (.iconst 4, 1) := by decide +kernel
theorem d_MO_appended_15 : decode b_MO_appended 15 = .ok (.invokevirtual 68, 3) := by decide +kernel
theorem d_MO_appended_18 : decode b_MO_appended 18 = .ok (.lconst 1, 1) := by decide +kernel
theorem d_MO_appended_19 : decode b_MO_appended 19 = .ok (.ladd, 1) := by decide +kernel
theorem d_MO_appended_20 : decode b_MO_appended 20 = .ok (.iload_n 1, 1) := by decide +kernel
theorem d_MO_appended_21 : decode b_MO_appended 21 = .ok (.bipush (-2), 2) := by decide +kernel
theorem d_MO_appended_23 : decode b_MO_appended 23 = .ok (.if_icmp .ne 15, 3) := by decide +kernel
theorem d_MO_appended_26 : decode b_MO_appended 26 = .ok (.aload_n 0, 1) := by decide +kernel
