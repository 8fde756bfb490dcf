theorem d_MO_appended_27 : decode b_MO_appended 27 = .ok (.getfield 7, 3) := by decide +kernel
theorem d_MO_appended_30 : decode b_MO_appended 30 = .ok (.iload 7, 2) := by decide +kernel
theorem d_MO_appended_32 : decode b_MO_appended 32 = .ok (.iconst 4, 1) := by decide +kernel
theorem d_MO_appended_33 : decode b_MO_appended 33 = .ok (.iadd, 1) := by decide +kernel
theorem d_MO_appended_34 : decode b_MO_appended 34 = .ok (.iaload, 1) := by decide +kernel
theorem d_MO_appended_35 : decode b_MO_appended 35 = .ok (.goto 4, 3) := by decide +kernel
theorem d_MO_appended_38 : decode b_MO_appended 38 = .ok (.iload_n 1, 1) := by decide +kernel
theorem d_MO_appended_39 : decode b_MO_appended 39 = .ok (.iload_n 2, 1) := by decide +kernel
theorem d_MO_appended_40 : decode b_MO_appended 40 = .ok (.bipush (-2), 2) := by decide +kernel
theorem d_MO_appended_42 : decode b_MO_appended 42 = .ok (.if_icmp .ne 15, 3) := by decide +kernel
theorem d_MO_appended_45 : decode b_MO_appended 45 = .ok (.aload_n 0, 1) := by decide +kernel
theorem d_MO_appended_46 : decode b_MO_appended 46 = .ok (.getfield 7, 3) := by decide +kernel
theorem d_MO_appended_49 : decode b_MO_appended 49 = .ok (.iload 7, 2) := by decide +kernel
theorem d_MO_appended_51 : decode b_MO_appended 51 = .ok (.iconst 5, 1) := by decide +kernel
theorem d_MO_appended_52 : decode b_MO_appended 52 = .ok (.iadd, 1) := by decide +kernel
theorem d_MO_appended_53 : decode b_MO_appended 53 = .ok (.iaload, 1) := by decide +kernel
theorem d_MO_appended_54 : decode b_MO_appended 54 = .ok (.goto 4, 3) := by decide +kernel
theorem d_MO_appended_57 : decode b_MO_appended 57 = .ok (.iload_n 2, 1) := by decide +kernel
theorem d_MO_appended_58 : decode b_MO_appended 58 = .ok (.iload_n 3, 1) := by decide +kernel
theorem d_MO_appended_59 : decode b_MO_appended 59 = .ok (.bipush (-2), 2) := by decide +kernel
theorem d_MO_appended_61 : decode b_MO_appended 61 = .ok (.if_icmp .ne 16, 3) := by decide +kernel
theorem d_MO_appended_64 : decode b_MO_appended 64 = .ok (.aload_n 0, 1) := by decide +kernel
theorem d_MO_appended_65 : decode b_MO_appended 65 = .ok (.getfield 7, 3) := by decide +kernel
theorem d_MO_appended_68 : decode b_MO_appended 68 = .ok (.iload 7, 2) := by decide +kernel
theorem d_MO_appended_70 : decode b_MO_appended 70 = .ok (.bipush 6, 2) := by decide +kernel
theorem d_MO_appended_72 : decode b_MO_appended 72 = .ok (.iadd, 1) := by decide +kernel
theorem d_MO_appended_73 : decode b_MO_appended 73 = .ok (.iaload, 1) := by decide +kernel
theorem d_MO_appended_74 : decode b_MO_appended 74 = .ok (.goto 4, 3) := by decide +kernel
theorem d_MO_appended_77 : decode b_MO_appended 77 = .ok (.iload_n 3, 1) := by decide +kernel
theorem d_MO_appended_78 : decode b_MO_appended 78 = .ok (.iload 4, 2) := by decide +kernel
theorem d_MO_appended_80 : decode b_MO_appended 80 = .ok (.bipush (-2), 2) := by decide +kernel
theorem d_MO_appended_82 : decode b_MO_appended 82 = .ok (.if_icmp .ne 16, 3) := by decide +kernel
theorem d_MO_appended_85 : decode b_MO_appended 85 = .ok (.aload_n 0, 1) := by decide +kernel
theorem d_MO_appended_86 : decode b_MO_appended 86 = .ok (.getfield 7, 3) := by decide +kernel
theorem d_MO_appended_89 : decode b_MO_appended 89 = .ok (.iload 7, 2) := by decide +kernel
theorem d_MO_appended_91 : decode b_MO_appended 91 = .ok (.bipush 7, 2) := by decide +kernel
theorem d_MO_appended_93 : decode b_MO_appended 93 = .ok (.iadd, 1) := by decide +kernel
theorem d_MO_appended_94 : decode b_MO_appended 94 = .ok (.iaload, 1) := by decide +kernel
theorem d_MO_appended_95 : decode b_MO_appended 95 = .ok (.goto 5, 3) := by decide +kernel
theorem d_MO_appended_98 : decode b_MO_appended 98 = .ok (.iload 4, 2) := by decide +kernel
theorem d_MO_appended_100 : decode b_MO_appended 100 = .ok (.lload 5, 2) := by decide +kernel
theorem d_MO_appended_102 : decode b_MO_appended 102 = .ok (.ldc2_w 116, 3) := by decide +kernel
theorem d_MO_appended_105 : decode b_MO_appended 105 = .ok (.lcmp, 1) := by decide +kernel
theorem d_MO_appended_106 : decode b_MO_appended 106 = .ok (.ifCond .ne 20, 3) := by decide +kernel
theorem d_MO_appended_109 : decode b_MO_appended 109 = .ok (.aload_n 0, 1) := by decide +kernel
theorem d_MO_appended_110 : decode b_MO_appended 110 = .ok (.aload_n 0, 1) := by decide +kernel
theorem d_MO_appended_111 : decode b_MO_appended 111 = .ok (.getfield 7, 3) := by decide +kernel
theorem d_MO_appended_114 : decode b_MO_appended 114 = .ok (.iload 7, 2) := by decide +kernel
theorem d_MO_appended_116 : decode b_MO_appended 116 = .ok (.bipush 8, 2) := by decide +kernel
theorem d_MO_appended_118 : decode b_MO_appended 118 = .ok (.iadd, 1) := by decide +kernel
theorem d_MO_appended_119 : decode b_MO_appended 119 = .ok (.iconst 4, 1) := by decide +kernel
theorem d_MO_appended_120 : decode b_MO_appended 120 = .ok (.invokevirtual 68, 3) := by decide +kernel
theorem d_MO_appended_123 : decode b_MO_appended 123 = .ok (.goto 5, 3) := by decide +kernel
theorem d_MO_appended_126 : decode b_MO_appended 126 = .ok (.lload 5, 2) := by decide +kernel
theorem d_MO_appended_128 : decode b_MO_appended 128 = .ok (.invokevirtual 52, 3) := by decide +kernel
theorem d_MO_appended_131 : decode b_MO_appended 131 = .ok (.iload 7, 2) := by decide +kernel
theorem d_MO_appended_133 : decode b_MO_appended 133 = .ok (.bipush 64, 2) := by decide +kernel
theorem d_MO_appended_135 : decode b_MO_appended 135 = .ok (.idiv, 1) := by decide +kernel
theorem d_MO_appended_136 : decode b_MO_appended 136 = .ok (.istore 8, 2) := by decide +kernel
theorem d_MO_appended_138 : decode b_MO_appended 138 = .ok (.iload 7, 2) := by decide +kernel
theorem d_MO_appended_140 : decode b_MO_appended 140 = .ok (.bipush 16, 2) := by decide +kernel
theorem d_MO_appended_142 : decode b_MO_appended 142 = .ok (.iadd, 1) := by decide +kernel
theorem d_MO_appended_143 : decode b_MO_appended 143 = .ok (.istore 9, 2) := by decide +kernel
theorem d_MO_appended_145 : decode b_MO_appended 145 = .ok (.iload 9, 2) := by decide +kernel
theorem d_MO_appended_147 : decode b_MO_appended 147 = .ok (.bipush 64, 2) := by decide +kernel
theorem d_MO_appended_149 : decode b_MO_appended 149 = .ok (.iload 8, 2) := by decide +kernel
theorem d_MO_appended_151 : decode b_MO_appended 151 = .ok (.iconst 1, 1) := by decide +kernel
theorem d_MO_appended_152 : decode b_MO_appended 152 = .ok (.iadd, 1) := by decide +kernel
theorem d_MO_appended_153 : decode b_MO_appended 153 = .ok (.imul, 1) := by decide +kernel
theorem d_MO_appended_154 : decode b_MO_appended 154 = .ok (.if_icmp .ge 18, 3) := by decide +kernel
theorem d_MO_appended_157 : decode b_MO_appended 157 = .ok (.aload_n 0, 1) := by decide +kernel
theorem d_MO_appended_158 : decode b_MO_appended 158 = .ok (.iload 9, 2) := by decide +kernel
theorem d_MO_appended_160 : decode b_MO_appended 160 = .ok (.invokevirtual 118, 3) := by decide +kernel
theorem d_MO_appended_163 : decode b_MO_appended 163 = .ok (.ifCond .ne 9, 3) := by decide +kernel
theorem d_MO_appended_166 : decode b_MO_appended 166 = .ok (.iinc 9 16, 3) := by decide +kernel
theorem d_MO_appended_169 : decode b_MO_appended 169 = .ok (.goto (-24), 3) := by decide +kernel
theorem d_MO_appended_172 : decode b_MO_appended 172 = .ok (.iload 9, 2) := by decide +kernel
theorem d_MO_appended_174 : decode b_MO_appended 174 = .ok (.bipush 64, 2) := by decide +kernel
theorem d_MO_appended_176 : decode b_MO_appended 176 = .ok (.iload 8, 2) := by decide +kernel
theorem d_MO_appended_178 : decode b_MO_appended 178 = .ok (.iconst 1, 1) := by decide +kernel
theorem d_MO_appended_179 : decode b_MO_appended 179 = .ok (.iadd, 1) := by decide +kernel
theorem d_MO_appended_180 : decode b_MO_appended 180 = .ok (.imul, 1) := by decide +kernel
theorem d_MO_appended_181 : decode b_MO_appended 181 = .ok (.if_icmp .ne 25, 3) := by decide +kernel
theorem d_MO_appended_184 : decode b_MO_appended 184 = .ok (.bipush 64, 2) := by decide +kernel
theorem d_MO_appended_186 : decode b_MO_appended 186 = .ok (.iconst 1, 1) := by decide +kernel
theorem d_MO_appended_187 : decode b_MO_appended 187 = .ok (.iload 8, 2) := by decide +kernel
theorem d_MO_appended_189 : decode b_MO_appended 189 = .ok (.isub, 1) := by decide +kernel
theorem d_MO_appended_190 : decode b_MO_appended 190 = .ok (.imul, 1) := by decide +kernel
theorem d_MO_appended_191 : decode b_MO_appended 191 = .ok (.istore 9, 2) := by decide +kernel
theorem d_MO_appended_193 : decode b_MO_appended 193 = .ok (.aload_n 0, 1) := by decide +kernel
theorem d_MO_appended_194 : decode b_MO_appended 194 = .ok (.iconst 1, 1) := by decide +kernel
theorem d_MO_appended_195 : decode b_MO_appended 195 = .ok (.iload 8, 2) := by decide +kernel
theorem d_MO_appended_197 : decode b_MO_appended 197 = .ok (.isub, 1) := by decide +kernel
theorem d_MO_appended_198 : decode b_MO_appended 198 = .ok (.invokevirtual 122, 3) := by decide +kernel
theorem d_MO_appended_201 : decode b_MO_appended 201 = .ok (.ifCond .ne 5, 3) := by decide +kernel
theorem d_MO_appended_204 : decode b_MO_appended 204 = .ok (.iconst 0, 1) := by decide +kernel
theorem d_MO_appended_205 : decode b_MO_appended 205 = .ok (.ireturn, 1) := by decide +kernel
theorem d_MO_appended_206 : decode b_MO_appended 206 = .ok (.aload_n 0, 1) := by decide +kernel
theorem d_MO_appended_207 : decode b_MO_appended 207 = .ok (.iload 9, 2) := by decide +kernel
theorem d_MO_appended_209 : decode b_MO_appended 209 = .ok (.aload_n 0, 1) := by decide +kernel
theorem d_MO_appended_210 : decode b_MO_appended 210 = .ok (.getfield 35, 3) := by decide +kernel
theorem d_MO_appended_213 : decode b_MO_appended 213 = .ok (.iconst 0, 1) := by decide +kernel
theorem d_MO_appended_214 : decode b_MO_appended 214 = .ok (.invokevirtual 125, 3) := by decide +kernel
theorem d_MO_appended_217 : decode b_MO_appended 217 = .ok (.ifCond .ne 5, 3) := by decide +kernel
theorem d_MO_appended_220 : decode b_MO_appended 220 = .ok (.iconst 0, 1) := by decide +kernel
theorem d_MO_appended_221 : decode b_MO_appended 221 = .ok (.ireturn, 1) := by decide +kernel
theorem d_MO_appended_222 : decode b_MO_appended 222 = .ok (.aload_n 0, 1) := by decide +kernel
theorem d_MO_appended_223 : decode b_MO_appended 223 = .ok (.getfield 29, 3) := by decide +kernel
theorem d_MO_appended_226 : decode b_MO_appended 226 = .ok (.iconst 2, 1) := by decide +kernel
theorem d_MO_appended_227 : decode b_MO_appended 227 = .ok (.dup2, 1) := by decide +kernel
theorem d_MO_appended_228 : decode b_MO_appended 228 = .ok (.iaload, 1) := by decide +kernel
theorem d_MO_appended_229 : decode b_MO_appended 229 = .ok (.iconst 1, 1) := by decide +kernel
theorem d_MO_appended_230 : decode b_MO_appended 230 = .ok (.iadd, 1) := by decide +kernel
theorem d_MO_appended_231 : decode b_MO_appended 231 = .ok (.iastore, 1) := by decide +kernel
theorem d_MO_appended_232 : decode b_MO_appended 232 = .ok (.iconst 1, 1) := by decide +kernel
theorem d_MO_appended_233 : decode b_MO_appended 233 = .ok (.ireturn, 1) := by decide +kernel
theorem d_MO_activeSlot_0 : decode b_MO_activeSlot 0 = .ok (.aload_n 0, 1) := by decide +kernel
theorem d_MO_activeSlot_1 : decode b_MO_activeSlot 1 = .ok (.getfield 7, 3) := by decide +kernel
theorem d_MO_activeSlot_4 : decode b_MO_activeSlot 4 = .ok (.aload_n 0, 1) := by decide +kernel
theorem d_MO_activeSlot_5 : decode b_MO_activeSlot 5 = .ok (.invokevirtual 80, 3) := by decide +kernel
theorem d_MO_activeSlot_8 : decode b_MO_activeSlot 8 = .ok (.iconst 4, 1) := by decide +kernel
theorem d_MO_activeSlot_9 : decode b_MO_activeSlot 9 = .ok (.iadd, 1) := by decide +kernel
theorem d_MO_activeSlot_10 : decode b_MO_activeSlot 10 = .ok (.iaload, 1) := by decide +kernel
theorem d_MO_activeSlot_11 : decode b_MO_activeSlot 11 = .ok (.ireturn, 1) := by decide +kernel
theorem d_MO_otherOf_0 : decode b_MO_otherOf 0 = .ok (.iload_n 0, 1) := by decide +kernel
theorem d_MO_otherOf_1 : decode b_MO_otherOf 1 = .ok (.ifCond .ne 7, 3) := by decide +kernel
theorem d_MO_otherOf_4 : decode b_MO_otherOf 4 = .ok (.iconst 1, 1) := by decide +kernel
theorem d_MO_otherOf_5 : decode b_MO_otherOf 5 = .ok (.goto 4, 3) := by decide +kernel
theorem d_MO_otherOf_8 : decode b_MO_otherOf 8 = .ok (.iconst 0, 1) := by decide +kernel
theorem d_MO_otherOf_9 : decode b_MO_otherOf 9 = .ok (.ireturn, 1) := by decide +kernel
theorem d_MO_make_0 : decode b_MO_make 0 = .ok (.iload_n 2, 1) := by decide +kernel
theorem d_MO_make_1 : decode b_MO_make 1 = .ok (.i2l, 1) := by decide +kernel
theorem d_MO_make_2 : decode b_MO_make 2 = .ok (.lconst 1, 1) := by decide +kernel
theorem d_MO_make_3 : decode b_MO_make 3 = .ok (.ldc2_w 74, 3) := by decide +kernel
theorem d_MO_make_6 : decode b_MO_make 6 = .ok (.invokestatic 76, 3) := by decide +kernel
theorem d_MO_make_9 : decode b_MO_make 9 = .ok (.ifCond .eq 15, 3) := by decide +kernel
theorem d_MO_make_12 : decode b_MO_make 12 = .ok (.iload_n 3, 1) := by decide +kernel
theorem d_MO_make_13 : decode b_MO_make 13 = .ok (.i2l, 1) := by decide +kernel
theorem d_MO_make_14 : decode b_MO_make 14 = .ok (.lconst 0, 1) := by decide +kernel
theorem d_MO_make_15 : decode b_MO_make 15 = .ok (.ldc2_w 129, 3) := by decide +kernel
theorem d_MO_make_18 : decode b_MO_make 18 = .ok (.invokestatic 76, 3) := by decide +kernel
theorem d_MO_make_21 : decode b_MO_make 21 = .ok (.ifCond .ne 6, 3) := by decide +kernel
theorem d_MO_make_24 : decode b_MO_make 24 = .ok (.bipush (-102), 2) := by decide +kernel
theorem d_MO_make_26 : decode b_MO_make 26 = .ok (.ireturn, 1) := by decide +kernel
theorem d_MO_make_27 : decode b_MO_make 27 = .ok (.aload_n 0, 1) := by decide +kernel
theorem d_MO_make_28 : decode b_MO_make 28 = .ok (.iload_n 1, 1) := by decide +kernel
theorem d_MO_make_29 : decode b_MO_make 29 = .ok (.putfield 131, 3) := by decide +kernel
theorem d_MO_make_32 : decode b_MO_make 32 = .ok (.aload_n 0, 1) := by decide +kernel
theorem d_MO_make_33 : decode b_MO_make 33 = .ok (.iload_n 2, 1) := by decide +kernel
theorem d_MO_make_34 : decode b_MO_make 34 = .ok (.putfield 134, 3) := by decide +kernel
theorem d_MO_make_37 : decode b_MO_make 37 = .ok (.aload_n 0, 1) := by decide +kernel
theorem d_MO_make_38 : decode b_MO_make 38 = .ok (.iload_n 3, 1) := by decide +kernel
theorem d_MO_make_39 : decode b_MO_make 39 = .ok (.putfield 137, 3) := by decide +kernel
theorem d_MO_make_42 : decode b_MO_make 42 = .ok (.aload_n 0, 1) := by decide +kernel
theorem d_MO_make_43 : decode b_MO_make 43 = .ok (.iload 4, 2) := by decide +kernel
theorem d_MO_make_45 : decode b_MO_make 45 = .ok (.putfield 140, 3) := by decide +kernel
theorem d_MO_make_48 : decode b_MO_make 48 = .ok (.iconst 1, 1) := by decide +kernel
theorem d_MO_make_49 : decode b_MO_make 49 = .ok (.ireturn, 1) := by decide +kernel
theorem d_MO_makerByte_0 : decode b_MO_makerByte 0 = .ok (.aload_n 0, 1) := by decide +kernel
theorem d_MO_makerByte_1 : decode b_MO_makerByte 1 = .ok (.getfield 140, 3) := by decide +kernel
theorem d_MO_makerByte_4 : decode b_MO_makerByte 4 = .ok (.iconst 5, 1) := by decide +kernel
theorem d_MO_makerByte_5 : decode b_MO_makerByte 5 = .ok (.iload_n 1, 1) := by decide +kernel
theorem d_MO_makerByte_6 : decode b_MO_makerByte 6 = .ok (.imul, 1) := by decide +kernel
theorem d_MO_makerByte_7 : decode b_MO_makerByte 7 = .ok (.iadd, 1) := by decide +kernel
theorem d_MO_makerByte_8 : decode b_MO_makerByte 8 = .ok (.iload_n 2, 1) := by decide +kernel
theorem d_MO_makerByte_9 : decode b_MO_makerByte 9 = .ok (.iadd, 1) := by decide +kernel
theorem d_MO_makerByte_10 : decode b_MO_makerByte 10 = .ok (.sipush 255, 3) := by decide +kernel
theorem d_MO_makerByte_13 : decode b_MO_makerByte 13 = .ok (.iand, 1) := by decide +kernel
theorem d_MO_makerByte_14 : decode b_MO_makerByte 14 = .ok (.ireturn, 1) := by decide +kernel
theorem d_MO_pack_0 : decode b_MO_pack 0 = .ok (.aload_n 0, 1) := by decide +kernel
theorem d_MO_pack_1 : decode b_MO_pack 1 = .ok (.getfield 134, 3) := by decide +kernel
theorem d_MO_pack_4 : decode b_MO_pack 4 = .ok (.ifCond .eq 21, 3) := by decide +kernel
theorem d_MO_pack_7 : decode b_MO_pack 7 = .ok (.iload_n 1, 1) := by decide +kernel
theorem d_MO_pack_8 : decode b_MO_pack 8 = .ok (.i2l, 1) := by decide +kernel
theorem d_MO_pack_9 : decode b_MO_pack 9 = .ok (.ldc2_w 143, 3) := by decide +kernel
theorem d_MO_pack_12 : decode b_MO_pack 12 = .ok (.aload_n 0, 1) := by decide +kernel
theorem d_MO_pack_13 : decode b_MO_pack 13 = .ok (.getfield 134, 3) := by decide +kernel
theorem d_MO_pack_16 : decode b_MO_pack 16 = .ok (.iconst 1, 1) := by decide +kernel
theorem d_MO_pack_17 : decode b_MO_pack 17 = .ok (.isub, 1) := by decide +kernel
theorem d_MO_pack_18 : decode b_MO_pack 18 = .ok (.i2l, 1) := by decide +kernel
theorem d_MO_pack_19 : decode b_MO_pack 19 = .ok (.invokestatic 76, 3) := by decide +kernel
theorem d_MO_pack_22 : decode b_MO_pack 22 = .ok (.ifCond .ne 6, 3) := by decide +kernel
theorem d_MO_pack_25 : decode b_MO_pack 25 = .ok (.bipush (-101), 2) := by decide +kernel
theorem d_MO_pack_27 : decode b_MO_pack 27 = .ok (.ireturn, 1) := by decide +kernel
theorem d_MO_pack_28 : decode b_MO_pack 28 = .ok (.iload_n 1, 1) := by decide +kernel
theorem d_MO_pack_29 : decode b_MO_pack 29 = .ok (.iconst (-1), 1) := by decide +kernel
theorem d_MO_pack_30 : decode b_MO_pack 30 = .ok (.if_icmp .ne 77, 3) := by decide +kernel
theorem d_MO_pack_33 : decode b_MO_pack 33 = .ok (.aload_n 0, 1) := by decide +kernel
theorem d_MO_pack_34 : decode b_MO_pack 34 = .ok (.getfield 131, 3) := by decide +kernel
theorem d_MO_pack_37 : decode b_MO_pack 37 = .ok (.i2l, 1) := by decide +kernel
theorem d_MO_pack_38 : decode b_MO_pack 38 = .ok (.ldc2_w 42, 3) := by decide +kernel
theorem d_MO_pack_41 : decode b_MO_pack 41 = .ok (.land, 1) := by decide +kernel
theorem d_MO_pack_42 : decode b_MO_pack 42 = .ok (.lstore_n 2, 1) := by decide +kernel
theorem d_MO_pack_43 : decode b_MO_pack 43 = .ok (.iconst 0, 1) := by decide +kernel
theorem d_MO_pack_44 : decode b_MO_pack 44 = .ok (.istore 4, 2) := by decide +kernel
theorem d_MO_pack_46 : decode b_MO_pack 46 = .ok (.iload 4, 2) := by decide +kernel
theorem d_MO_pack_48 : decode b_MO_pack 48 = .ok (.aload_n 0, 1) := by decide +kernel
theorem d_MO_pack_49 : decode b_MO_pack 49 = .ok (.getfield 134, 3) := by decide +kernel
theorem d_MO_pack_52 : decode b_MO_pack 52 = .ok (.if_icmp .ge 38, 3) := by decide +kernel
theorem d_MO_pack_55 : decode b_MO_pack 55 = .ok (.iconst 0, 1) := by decide +kernel
theorem d_MO_pack_56 : decode b_MO_pack 56 = .ok (.istore 5, 2) := by decide +kernel
theorem d_MO_pack_58 : decode b_MO_pack 58 = .ok (.iload 5, 2) := by decide +kernel
theorem d_MO_pack_60 : decode b_MO_pack 60 = .ok (.bipush 64, 2) := by decide +kernel
theorem d_MO_pack_62 : decode b_MO_pack 62 = .ok (.if_icmp .ge 22, 3) := by decide +kernel
theorem d_MO_pack_65 : decode b_MO_pack 65 = .ok (.lload_n 2, 1) := by decide +kernel
theorem d_MO_pack_66 : decode b_MO_pack 66 = .ok (.aload_n 0, 1) := by decide +kernel
theorem d_MO_pack_67 : decode b_MO_pack 67 = .ok (.iload 4, 2) := by decide +kernel
theorem d_MO_pack_69 : decode b_MO_pack 69 = .ok (.iload 5, 2) := by decide +kernel
theorem d_MO_pack_71 : decode b_MO_pack 71 = .ok (.invokevirtual 145, 3) := by decide +kernel
theorem d_MO_pack_74 : decode b_MO_pack 74 = .ok (.invokestatic 44, 3) := by decide +kernel
theorem d_MO_pack_77 : decode b_MO_pack 77 = .ok (.lstore_n 2, 1) := by decide +kernel
theorem d_MO_pack_78 : decode b_MO_pack 78 = .ok (.iinc 5 1, 3) := by decide +kernel
theorem d_MO_pack_81 : decode b_MO_pack 81 = .ok (.goto (-23), 3) := by decide +kernel
theorem d_MO_pack_84 : decode b_MO_pack 84 = .ok (.iinc 4 1, 3) := by decide +kernel
theorem d_MO_pack_87 : decode b_MO_pack 87 = .ok (.goto (-41), 3) := by decide +kernel
theorem d_MO_pack_90 : decode b_MO_pack 90 = .ok (.aload_n 0, 1) := by decide +kernel
theorem d_MO_pack_91 : decode b_MO_pack 91 = .ok (.aload_n 0, 1) := by decide +kernel
theorem d_MO_pack_92 : decode b_MO_pack 92 = .ok (.getfield 131, 3) := by decide +kernel
theorem d_MO_pack_95 : decode b_MO_pack 95 = .ok (.aload_n 0, 1) := by decide +kernel
theorem d_MO_pack_96 : decode b_MO_pack 96 = .ok (.getfield 134, 3) := by decide +kernel
theorem d_MO_pack_99 : decode b_MO_pack 99 = .ok (.aload_n 0, 1) := by decide +kernel
theorem d_MO_pack_100 : decode b_MO_pack 100 = .ok (.getfield 137, 3) := by decide +kernel
theorem d_MO_pack_103 : decode b_MO_pack 103 = .ok (.lload_n 2, 1) := by decide +kernel
theorem d_MO_pack_104 : decode b_MO_pack 104 = .ok (.invokevirtual 48, 3) := by decide +kernel
theorem d_MO_pack_107 : decode b_MO_pack 107 = .ok (.iconst 0, 1) := by decide +kernel
theorem d_MO_pack_108 : decode b_MO_pack 108 = .ok (.istore_n 2, 1) := by decide +kernel
theorem d_MO_pack_109 : decode b_MO_pack 109 = .ok (.iload_n 2, 1) := by decide +kernel
theorem d_MO_pack_110 : decode b_MO_pack 110 = .ok (.bipush 64, 2) := by decide +kernel
theorem d_MO_pack_112 : decode b_MO_pack 112 = .ok (.if_icmp .ge 35, 3) := by decide +kernel
theorem d_MO_pack_115 : decode b_MO_pack 115 = .ok (.aload_n 0, 1) := by decide +kernel
theorem d_MO_pack_116 : decode b_MO_pack 116 = .ok (.getfield 20, 3) := by decide +kernel
theorem d_MO_pack_119 : decode b_MO_pack 119 = .ok (.iload_n 2, 1) := by decide +kernel
theorem d_MO_pack_120 : decode b_MO_pack 120 = .ok (.iload_n 1, 1) := by decide +kernel
theorem d_MO_pack_121 : decode b_MO_pack 121 = .ok (.iconst (-1), 1) := by decide +kernel
theorem d_MO_pack_122 : decode b_MO_pack 122 = .ok (.if_icmp .ne 12, 3) := by decide +kernel
theorem d_MO_pack_125 : decode b_MO_pack 125 = .ok (.aload_n 0, 1) := by decide +kernel
theorem d_MO_pack_126 : decode b_MO_pack 126 = .ok (.getfield 32, 3) := by decide +kernel
theorem d_MO_pack_129 : decode b_MO_pack 129 = .ok (.iload_n 2, 1) := by decide +kernel
theorem d_MO_pack_130 : decode b_MO_pack 130 = .ok (.iaload, 1) := by decide +kernel
theorem d_MO_pack_131 : decode b_MO_pack 131 = .ok (.goto 9, 3) := by decide +kernel
theorem d_MO_pack_134 : decode b_MO_pack 134 = .ok (.aload_n 0, 1) := by decide +kernel
theorem d_MO_pack_135 : decode b_MO_pack 135 = .ok (.iload_n 1, 1) := by decide +kernel
theorem d_MO_pack_136 : decode b_MO_pack 136 = .ok (.iload_n 2, 1) := by decide +kernel
theorem d_MO_pack_137 : decode b_MO_pack 137 = .ok (.invokevirtual 145, 3) := by decide +kernel
theorem d_MO_pack_140 : decode b_MO_pack 140 = .ok (.iastore, 1) := by decide +kernel
theorem d_MO_pack_141 : decode b_MO_pack 141 = .ok (.iinc 2 1, 3) := by decide +kernel
theorem d_MO_pack_144 : decode b_MO_pack 144 = .ok (.goto (-35), 3) := by decide +kernel
theorem d_MO_pack_147 : decode b_MO_pack 147 = .ok (.aload_n 0, 1) := by decide +kernel
theorem d_MO_pack_148 : decode b_MO_pack 148 = .ok (.bipush 64, 2) := by decide +kernel
theorem d_MO_pack_150 : decode b_MO_pack 150 = .ok (.putfield 107, 3) := by decide +kernel
theorem d_MO_pack_153 : decode b_MO_pack 153 = .ok (.bipush 64, 2) := by decide +kernel
theorem d_MO_pack_155 : decode b_MO_pack 155 = .ok (.ireturn, 1) := by decide +kernel
theorem d_MO_alter_0 : decode b_MO_alter 0 = .ok (.iload_n 1, 1) := by decide +kernel
theorem d_MO_alter_1 : decode b_MO_alter 1 = .ok (.i2l, 1) := by decide +kernel
theorem d_MO_alter_2 : decode b_MO_alter 2 = .ok (.lconst 0, 1) := by decide +kernel
theorem d_MO_alter_3 : decode b_MO_alter 3 = .ok (.aload_n 0, 1) := by decide +kernel
theorem d_MO_alter_4 : decode b_MO_alter 4 = .ok (.getfield 107, 3) := by decide +kernel
theorem d_MO_alter_7 : decode b_MO_alter 7 = .ok (.iconst 1, 1) := by decide +kernel
theorem d_MO_alter_8 : decode b_MO_alter 8 = .ok (.isub, 1) := by decide +kernel
theorem d_MO_alter_9 : decode b_MO_alter 9 = .ok (.i2l, 1) := by decide +kernel
theorem d_MO_alter_10 : decode b_MO_alter 10 = .ok (.invokestatic 76, 3) := by decide +kernel
theorem d_MO_alter_13 : decode b_MO_alter 13 = .ok (.ifCond .ne 6, 3) := by decide +kernel
theorem d_MO_alter_16 : decode b_MO_alter 16 = .ok (.bipush (-101), 2) := by decide +kernel
theorem d_MO_alter_18 : decode b_MO_alter 18 = .ok (.ireturn, 1) := by decide +kernel
theorem d_MO_alter_19 : decode b_MO_alter 19 = .ok (.aload_n 0, 1) := by decide +kernel
theorem d_MO_alter_20 : decode b_MO_alter 20 = .ok (.getfield 20, 3) := by decide +kernel
theorem d_MO_alter_23 : decode b_MO_alter 23 = .ok (.iload_n 1, 1) := by decide +kernel
theorem d_MO_alter_24 : decode b_MO_alter 24 = .ok (.dup2, 1) := by decide +kernel
theorem d_MO_alter_25 : decode b_MO_alter 25 = .ok (.iaload, 1) := by decide +kernel
theorem d_MO_alter_26 : decode b_MO_alter 26 = .ok (.iload_n 2, 1) := by decide +kernel
theorem d_MO_alter_27 : decode b_MO_alter 27 = .ok (.sipush 255, 3) := by decide +kernel
theorem d_MO_alter_30 : decode b_MO_alter 30 = .ok (.iand, 1) := by decide +kernel
theorem d_MO_alter_31 : decode b_MO_alter 31 = .ok (.ixor, 1) := by decide +kernel
theorem d_MO_alter_32 : decode b_MO_alter 32 = .ok (.iastore, 1) := by decide +kernel
theorem d_MO_alter_33 : decode b_MO_alter 33 = .ok (.aload_n 0, 1) := by decide +kernel
theorem d_MO_alter_34 : decode b_MO_alter 34 = .ok (.getfield 20, 3) := by decide +kernel
theorem d_MO_alter_37 : decode b_MO_alter 37 = .ok (.iload_n 1, 1) := by decide +kernel
theorem d_MO_alter_38 : decode b_MO_alter 38 = .ok (.iaload, 1) := by decide +kernel
theorem d_MO_alter_39 : decode b_MO_alter 39 = .ok (.ireturn, 1) := by decide +kernel
theorem d_MO_isTrial_0 : decode b_MO_isTrial 0 = .ok (.aload_n 0, 1) := by decide +kernel
theorem d_MO_isTrial_1 : decode b_MO_isTrial 1 = .ok (.getfield 17, 3) := by decide +kernel
theorem d_MO_isTrial_4 : decode b_MO_isTrial 4 = .ok (.iconst (-1), 1) := by decide +kernel
theorem d_MO_isTrial_5 : decode b_MO_isTrial 5 = .ok (.if_icmp .eq 14, 3) := by decide +kernel
theorem d_MO_isTrial_8 : decode b_MO_isTrial 8 = .ok (.aload_n 0, 1) := by decide +kernel
theorem d_MO_isTrial_9 : decode b_MO_isTrial 9 = .ok (.getfield 104, 3) := by decide +kernel
theorem d_MO_isTrial_12 : decode b_MO_isTrial 12 = .ok (.ifCond .le 7, 3) := by decide +kernel
theorem d_MO_isTrial_15 : decode b_MO_isTrial 15 = .ok (.iconst 1, 1) := by decide +kernel
theorem d_MO_isTrial_16 : decode b_MO_isTrial 16 = .ok (.goto 4, 3) := by decide +kernel
theorem d_MO_isTrial_19 : decode b_MO_isTrial 19 = .ok (.iconst 0, 1) := by decide +kernel
theorem d_MO_isTrial_20 : decode b_MO_isTrial 20 = .ok (.ireturn, 1) := by decide +kernel
theorem d_MO_offer_0 : decode b_MO_offer 0 = .ok (.aload_n 0, 1) := by decide +kernel
theorem d_MO_offer_1 : decode b_MO_offer 1 = .ok (.getfield 100, 3) := by decide +kernel
theorem d_MO_offer_4 : decode b_MO_offer 4 = .ok (.ifCond .eq 6, 3) := by decide +kernel
theorem d_MO_offer_7 : decode b_MO_offer 7 = .ok (.bipush (-100), 2) := by decide +kernel
theorem d_MO_offer_9 : decode b_MO_offer 9 = .ok (.ireturn, 1) := by decide +kernel
theorem d_MO_offer_10 : decode b_MO_offer 10 = .ok (.aload_n 0, 1) := by decide +kernel
theorem d_MO_offer_11 : decode b_MO_offer 11 = .ok (.getfield 17, 3) := by decide +kernel
theorem d_MO_offer_14 : decode b_MO_offer 14 = .ok (.iconst (-1), 1) := by decide +kernel
theorem d_MO_offer_15 : decode b_MO_offer 15 = .ok (.if_icmp .eq 18, 3) := by decide +kernel
theorem d_MO_offer_18 : decode b_MO_offer 18 = .ok (.aload_n 0, 1) := by decide +kernel
theorem d_MO_offer_19 : decode b_MO_offer 19 = .ok (.invokevirtual 149, 3) := by decide +kernel
theorem d_MO_offer_22 : decode b_MO_offer 22 = .ok (.ifCond .ne 11, 3) := by decide +kernel
theorem d_MO_offer_25 : decode b_MO_offer 25 = .ok (.aload_n 0, 1) := by decide +kernel
theorem d_MO_offer_26 : decode b_MO_offer 26 = .ok (.invokevirtual 80, 3) := by decide +kernel
theorem d_MO_offer_29 : decode b_MO_offer 29 = .ok (.iconst (-1), 1) := by decide +kernel
theorem d_MO_offer_30 : decode b_MO_offer 30 = .ok (.if_icmp .ne 6, 3) := by decide +kernel
theorem d_MO_offer_33 : decode b_MO_offer 33 = .ok (.bipush (-103), 2) := by decide +kernel
theorem d_MO_offer_35 : decode b_MO_offer 35 = .ok (.ireturn, 1) := by decide +kernel
theorem d_MO_offer_36 : decode b_MO_offer 36 = .ok (.aload_n 0, 1) := by decide +kernel
theorem d_MO_offer_37 : decode b_MO_offer 37 = .ok (.getfield 107, 3) := by decide +kernel
theorem d_MO_offer_40 : decode b_MO_offer 40 = .ok (.bipush 64, 2) := by decide +kernel
theorem d_MO_offer_42 : decode b_MO_offer 42 = .ok (.if_icmp .ne 7, 3) := by decide +kernel
theorem d_MO_offer_45 : decode b_MO_offer 45 = .ok (.iconst 1, 1) := by decide +kernel
theorem d_MO_offer_46 : decode b_MO_offer 46 = .ok (.goto 4, 3) := by decide +kernel
theorem d_MO_offer_49 : decode b_MO_offer 49 = .ok (.iconst 0, 1) := by decide +kernel
theorem d_MO_offer_50 : decode b_MO_offer 50 = .ok (.istore_n 1, 1) := by decide +kernel
theorem d_MO_offer_51 : decode b_MO_offer 51 = .ok (.aload_n 0, 1) := by decide +kernel
theorem d_MO_offer_52 : decode b_MO_offer 52 = .ok (.iconst 0, 1) := by decide +kernel
theorem d_MO_offer_53 : decode b_MO_offer 53 = .ok (.putfield 107, 3) := by decide +kernel
theorem d_MO_offer_56 : decode b_MO_offer 56 = .ok (.iload_n 1, 1) := by decide +kernel
theorem d_MO_offer_57 : decode b_MO_offer 57 = .ok (.ifCond .eq 33, 3) := by decide +kernel
theorem d_MO_offer_60 : decode b_MO_offer 60 = .ok (.aload_n 0, 1) := by decide +kernel
theorem d_MO_offer_61 : decode b_MO_offer 61 = .ok (.aload_n 0, 1) := by decide +kernel
theorem d_MO_offer_62 : decode b_MO_offer 62 = .ok (.getfield 20, 3) := by decide +kernel
theorem d_MO_offer_65 : decode b_MO_offer 65 = .ok (.iconst 0, 1) := by decide +kernel
theorem d_MO_offer_66 : decode b_MO_offer 66 = .ok (.invokevirtual 88, 3) := by decide +kernel
theorem d_MO_offer_69 : decode b_MO_offer 69 = .ok (.ifCond .eq 21, 3) := by decide +kernel
theorem d_MO_offer_72 : decode b_MO_offer 72 = .ok (.aload_n 0, 1) := by decide +kernel
theorem d_MO_offer_73 : decode b_MO_offer 73 = .ok (.aload_n 0, 1) := by decide +kernel
theorem d_MO_offer_74 : decode b_MO_offer 74 = .ok (.getfield 20, 3) := by decide +kernel
theorem d_MO_offer_77 : decode b_MO_offer 77 = .ok (.iconst 4, 1) := by decide +kernel
theorem d_MO_offer_78 : decode b_MO_offer 78 = .ok (.iconst 4, 1) := by decide +kernel
theorem d_MO_offer_79 : decode b_MO_offer 79 = .ok (.invokevirtual 68, 3) := by decide +kernel
theorem d_MO_offer_82 : decode b_MO_offer 82 = .ok (.aload_n 0, 1) := by decide +kernel
theorem d_MO_offer_83 : decode b_MO_offer 83 = .ok (.invokevirtual 92, 3) := by decide +kernel
theorem d_MO_offer_86 : decode b_MO_offer 86 = .ok (.lcmp, 1) := by decide +kernel
theorem d_MO_offer_87 : decode b_MO_offer 87 = .ok (.ifCond .ge 6, 3) := by decide +kernel
theorem d_MO_offer_90 : decode b_MO_offer 90 = .ok (.bipush (-105), 2) := by decide +kernel
theorem d_MO_offer_92 : decode b_MO_offer 92 = .ok (.ireturn, 1) := by decide +kernel
theorem d_MO_offer_93 : decode b_MO_offer 93 = .ok (.aload_n 0, 1) := by decide +kernel
theorem d_MO_offer_94 : decode b_MO_offer 94 = .ok (.invokevirtual 153, 3) := by decide +kernel
theorem d_MO_offer_97 : decode b_MO_offer 97 = .ok (.invokestatic 156, 3) := by decide +kernel
theorem d_MO_offer_100 : decode b_MO_offer 100 = .ok (.istore_n 2, 1) := by decide +kernel
theorem d_MO_offer_101 : decode b_MO_offer 101 = .ok (.aload_n 0, 1) := by decide +kernel
theorem d_MO_offer_102 : decode b_MO_offer 102 = .ok (.iload_n 2, 1) := by decide +kernel
theorem d_MO_offer_103 : decode b_MO_offer 103 = .ok (.invokestatic 84, 3) := by decide +kernel
theorem d_MO_offer_106 : decode b_MO_offer 106 = .ok (.bipush 64, 2) := by decide +kernel
theorem d_MO_offer_108 : decode b_MO_offer 108 = .ok (.idiv, 1) := by decide +kernel
theorem d_MO_offer_109 : decode b_MO_offer 109 = .ok (.invokevirtual 122, 3) := by decide +kernel
theorem d_MO_offer_112 : decode b_MO_offer 112 = .ok (.ifCond .ne 6, 3) := by decide +kernel
