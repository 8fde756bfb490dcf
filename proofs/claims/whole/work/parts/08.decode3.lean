theorem d_LG_look_124 : decode b_LG_look 124 = .ok (.if_icmp .ne 7, 3) := by decide +kernel
theorem d_LG_look_127 : decode b_LG_look 127 = .ok (.iconst (-1), 1) := by decide +kernel
theorem d_LG_look_128 : decode b_LG_look 128 = .ok (.goto 4, 3) := by decide +kernel
theorem d_LG_look_131 : decode b_LG_look 131 = .ok (.iload_n 2, 1) := by decide +kernel
theorem d_LG_look_132 : decode b_LG_look 132 = .ok (.putfield 28, 3) := by decide +kernel
theorem d_LG_look_135 : decode b_LG_look 135 = .ok (.aload_n 0, 1) := by decide +kernel
theorem d_LG_look_136 : decode b_LG_look 136 = .ok (.iload_n 1, 1) := by decide +kernel
theorem d_LG_look_137 : decode b_LG_look 137 = .ok (.ifCond .eq 22, 3) := by decide +kernel
theorem d_LG_look_140 : decode b_LG_look 140 = .ok (.aload_n 0, 1) := by decide +kernel
theorem d_LG_look_141 : decode b_LG_look 141 = .ok (.getfield 40, 3) := by decide +kernel
theorem d_LG_look_144 : decode b_LG_look 144 = .ok (.getfield 52, 3) := by decide +kernel
theorem d_LG_look_147 : decode b_LG_look 147 = .ok (.aload_n 0, 1) := by decide +kernel
theorem d_LG_look_148 : decode b_LG_look 148 = .ok (.getfield 19, 3) := by decide +kernel
theorem d_LG_look_151 : decode b_LG_look 151 = .ok (.iconst 4, 1) := by decide +kernel
theorem d_LG_look_152 : decode b_LG_look 152 = .ok (.iadd, 1) := by decide +kernel
theorem d_LG_look_153 : decode b_LG_look 153 = .ok (.invokestatic 57, 3) := by decide +kernel
theorem d_LG_look_156 : decode b_LG_look 156 = .ok (.goto 4, 3) := by decide +kernel
theorem d_LG_look_159 : decode b_LG_look 159 = .ok (.iconst (-1), 1) := by decide +kernel
theorem d_LG_look_160 : decode b_LG_look 160 = .ok (.putfield 25, 3) := by decide +kernel
theorem d_LG_look_163 : decode b_LG_look 163 = .ok (.aload_n 0, 1) := by decide +kernel
theorem d_LG_look_164 : decode b_LG_look 164 = .ok (.iload_n 1, 1) := by decide +kernel
theorem d_LG_look_165 : decode b_LG_look 165 = .ok (.ifCond .eq 23, 3) := by decide +kernel
theorem d_LG_look_168 : decode b_LG_look 168 = .ok (.aload_n 0, 1) := by decide +kernel
theorem d_LG_look_169 : decode b_LG_look 169 = .ok (.getfield 40, 3) := by decide +kernel
theorem d_LG_look_172 : decode b_LG_look 172 = .ok (.getfield 52, 3) := by decide +kernel
theorem d_LG_look_175 : decode b_LG_look 175 = .ok (.aload_n 0, 1) := by decide +kernel
theorem d_LG_look_176 : decode b_LG_look 176 = .ok (.getfield 19, 3) := by decide +kernel
theorem d_LG_look_179 : decode b_LG_look 179 = .ok (.bipush 6, 2) := by decide +kernel
theorem d_LG_look_181 : decode b_LG_look 181 = .ok (.iadd, 1) := by decide +kernel
theorem d_LG_look_182 : decode b_LG_look 182 = .ok (.invokestatic 57, 3) := by decide +kernel
theorem d_LG_look_185 : decode b_LG_look 185 = .ok (.goto 4, 3) := by decide +kernel
theorem d_LG_look_188 : decode b_LG_look 188 = .ok (.iconst 0, 1) := by decide +kernel
theorem d_LG_look_189 : decode b_LG_look 189 = .ok (.putfield 31, 3) := by decide +kernel
theorem d_LG_look_192 : decode b_LG_look 192 = .ok (.aload_n 0, 1) := by decide +kernel
theorem d_LG_look_193 : decode b_LG_look 193 = .ok (.iload_n 1, 1) := by decide +kernel
theorem d_LG_look_194 : decode b_LG_look 194 = .ok (.ifCond .eq 23, 3) := by decide +kernel
theorem d_LG_look_197 : decode b_LG_look 197 = .ok (.aload_n 0, 1) := by decide +kernel
theorem d_LG_look_198 : decode b_LG_look 198 = .ok (.getfield 40, 3) := by decide +kernel
theorem d_LG_look_201 : decode b_LG_look 201 = .ok (.getfield 52, 3) := by decide +kernel
theorem d_LG_look_204 : decode b_LG_look 204 = .ok (.aload_n 0, 1) := by decide +kernel
theorem d_LG_look_205 : decode b_LG_look 205 = .ok (.getfield 19, 3) := by decide +kernel
theorem d_LG_look_208 : decode b_LG_look 208 = .ok (.bipush 7, 2) := by decide +kernel
theorem d_LG_look_210 : decode b_LG_look 210 = .ok (.iadd, 1) := by decide +kernel
theorem d_LG_look_211 : decode b_LG_look 211 = .ok (.invokestatic 57, 3) := by decide +kernel
theorem d_LG_look_214 : decode b_LG_look 214 = .ok (.goto 4, 3) := by decide +kernel
theorem d_LG_look_217 : decode b_LG_look 217 = .ok (.iconst 0, 1) := by decide +kernel
theorem d_LG_look_218 : decode b_LG_look 218 = .ok (.putfield 34, 3) := by decide +kernel
theorem d_LG_look_221 : decode b_LG_look 221 = .ok (.aload_n 0, 1) := by decide +kernel
theorem d_LG_look_222 : decode b_LG_look 222 = .ok (.iload_n 1, 1) := by decide +kernel
theorem d_LG_look_223 : decode b_LG_look 223 = .ok (.ifCond .eq 25, 3) := by decide +kernel
theorem d_LG_look_226 : decode b_LG_look 226 = .ok (.aload_n 0, 1) := by decide +kernel
theorem d_LG_look_227 : decode b_LG_look 227 = .ok (.getfield 40, 3) := by decide +kernel
theorem d_LG_look_230 : decode b_LG_look 230 = .ok (.getfield 52, 3) := by decide +kernel
theorem d_LG_look_233 : decode b_LG_look 233 = .ok (.aload_n 0, 1) := by decide +kernel
theorem d_LG_look_234 : decode b_LG_look 234 = .ok (.getfield 19, 3) := by decide +kernel
theorem d_LG_look_237 : decode b_LG_look 237 = .ok (.bipush 8, 2) := by decide +kernel
theorem d_LG_look_239 : decode b_LG_look 239 = .ok (.iadd, 1) := by decide +kernel
theorem d_LG_look_240 : decode b_LG_look 240 = .ok (.iconst 4, 1) := by decide +kernel
theorem d_LG_look_241 : decode b_LG_look 241 = .ok (.invokestatic 68, 3) := by decide +kernel
theorem d_LG_look_244 : decode b_LG_look 244 = .ok (.l2i, 1) := by decide +kernel
theorem d_LG_look_245 : decode b_LG_look 245 = .ok (.goto 4, 3) := by decide +kernel
theorem d_LG_look_248 : decode b_LG_look 248 = .ok (.iconst 0, 1) := by decide +kernel
theorem d_LG_look_249 : decode b_LG_look 249 = .ok (.putfield 37, 3) := by decide +kernel
theorem d_LG_look_252 : decode b_LG_look 252 = .ok (.return_, 1) := by decide +kernel
theorem d_LG_compose_0 : decode b_LG_compose 0 = .ok (.aload_n 0, 1) := by decide +kernel
theorem d_LG_compose_1 : decode b_LG_compose 1 = .ok (.getfield 9, 3) := by decide +kernel
theorem d_LG_compose_4 : decode b_LG_compose 4 = .ok (.iconst 0, 1) := by decide +kernel
theorem d_LG_compose_5 : decode b_LG_compose 5 = .ok (.invokestatic 101, 3) := by decide +kernel
theorem d_LG_compose_8 : decode b_LG_compose 8 = .ok (.aload_n 0, 1) := by decide +kernel
theorem d_LG_compose_9 : decode b_LG_compose 9 = .ok (.getfield 9, 3) := by decide +kernel
theorem d_LG_compose_12 : decode b_LG_compose 12 = .ok (.iconst 4, 1) := by decide +kernel
theorem d_LG_compose_13 : decode b_LG_compose 13 = .ok (.iload_n 1, 1) := by decide +kernel
theorem d_LG_compose_14 : decode b_LG_compose 14 = .ok (.invokestatic 61, 3) := by decide +kernel
theorem d_LG_compose_17 : decode b_LG_compose 17 = .ok (.aload_n 0, 1) := by decide +kernel
theorem d_LG_compose_18 : decode b_LG_compose 18 = .ok (.getfield 9, 3) := by decide +kernel
theorem d_LG_compose_21 : decode b_LG_compose 21 = .ok (.iconst 5, 1) := by decide +kernel
theorem d_LG_compose_22 : decode b_LG_compose 22 = .ok (.iload_n 2, 1) := by decide +kernel
theorem d_LG_compose_23 : decode b_LG_compose 23 = .ok (.iconst (-1), 1) := by decide +kernel
theorem d_LG_compose_24 : decode b_LG_compose 24 = .ok (.if_icmp .ne 9, 3) := by decide +kernel
theorem d_LG_compose_27 : decode b_LG_compose 27 = .ok (.sipush 255, 3) := by decide +kernel
theorem d_LG_compose_30 : decode b_LG_compose 30 = .ok (.goto 4, 3) := by decide +kernel
theorem d_LG_compose_33 : decode b_LG_compose 33 = .ok (.iload_n 2, 1) := by decide +kernel
theorem d_LG_compose_34 : decode b_LG_compose 34 = .ok (.invokestatic 61, 3) := by decide +kernel
theorem d_LG_compose_37 : decode b_LG_compose 37 = .ok (.aload_n 0, 1) := by decide +kernel
theorem d_LG_compose_38 : decode b_LG_compose 38 = .ok (.getfield 9, 3) := by decide +kernel
theorem d_LG_compose_41 : decode b_LG_compose 41 = .ok (.bipush 6, 2) := by decide +kernel
theorem d_LG_compose_43 : decode b_LG_compose 43 = .ok (.iload_n 3, 1) := by decide +kernel
theorem d_LG_compose_44 : decode b_LG_compose 44 = .ok (.invokestatic 61, 3) := by decide +kernel
theorem d_LG_compose_47 : decode b_LG_compose 47 = .ok (.aload_n 0, 1) := by decide +kernel
theorem d_LG_compose_48 : decode b_LG_compose 48 = .ok (.getfield 9, 3) := by decide +kernel
theorem d_LG_compose_51 : decode b_LG_compose 51 = .ok (.bipush 7, 2) := by decide +kernel
theorem d_LG_compose_53 : decode b_LG_compose 53 = .ok (.iload 4, 2) := by decide +kernel
theorem d_LG_compose_55 : decode b_LG_compose 55 = .ok (.invokestatic 61, 3) := by decide +kernel
theorem d_LG_compose_58 : decode b_LG_compose 58 = .ok (.aload_n 0, 1) := by decide +kernel
theorem d_LG_compose_59 : decode b_LG_compose 59 = .ok (.getfield 9, 3) := by decide +kernel
theorem d_LG_compose_62 : decode b_LG_compose 62 = .ok (.bipush 8, 2) := by decide +kernel
theorem d_LG_compose_64 : decode b_LG_compose 64 = .ok (.iconst 4, 1) := by decide +kernel
theorem d_LG_compose_65 : decode b_LG_compose 65 = .ok (.iload 5, 2) := by decide +kernel
theorem d_LG_compose_67 : decode b_LG_compose 67 = .ok (.i2l, 1) := by decide +kernel
theorem d_LG_compose_68 : decode b_LG_compose 68 = .ok (.invokestatic 48, 3) := by decide +kernel
theorem d_LG_compose_71 : decode b_LG_compose 71 = .ok (.aload_n 0, 1) := by decide +kernel
theorem d_LG_compose_72 : decode b_LG_compose 72 = .ok (.getfield 9, 3) := by decide +kernel
theorem d_LG_compose_75 : decode b_LG_compose 75 = .ok (.bipush 15, 2) := by decide +kernel
theorem d_LG_compose_77 : decode b_LG_compose 77 = .ok (.bipush 90, 2) := by decide +kernel
theorem d_LG_compose_79 : decode b_LG_compose 79 = .ok (.invokestatic 61, 3) := by decide +kernel
theorem d_LG_compose_82 : decode b_LG_compose 82 = .ok (.return_, 1) := by decide +kernel
theorem d_LG_layFirst_0 : decode b_LG_layFirst 0 = .ok (.aload_n 0, 1) := by decide +kernel
theorem d_LG_layFirst_1 : decode b_LG_layFirst 1 = .ok (.iconst 0, 1) := by decide +kernel
theorem d_LG_layFirst_2 : decode b_LG_layFirst 2 = .ok (.iconst (-1), 1) := by decide +kernel
theorem d_LG_layFirst_3 : decode b_LG_layFirst 3 = .ok (.iconst 0, 1) := by decide +kernel
theorem d_LG_layFirst_4 : decode b_LG_layFirst 4 = .ok (.iconst 0, 1) := by decide +kernel
theorem d_LG_layFirst_5 : decode b_LG_layFirst 5 = .ok (.iload_n 1, 1) := by decide +kernel
theorem d_LG_layFirst_6 : decode b_LG_layFirst 6 = .ok (.invokevirtual 44, 3) := by decide +kernel
theorem d_LG_layFirst_9 : decode b_LG_layFirst 9 = .ok (.aload_n 0, 1) := by decide +kernel
theorem d_LG_layFirst_10 : decode b_LG_layFirst 10 = .ok (.getfield 9, 3) := by decide +kernel
theorem d_LG_layFirst_13 : decode b_LG_layFirst 13 = .ok (.iconst 0, 1) := by decide +kernel
theorem d_LG_layFirst_14 : decode b_LG_layFirst 14 = .ok (.iconst 4, 1) := by decide +kernel
theorem d_LG_layFirst_15 : decode b_LG_layFirst 15 = .ok (.lconst 1, 1) := by decide +kernel
theorem d_LG_layFirst_16 : decode b_LG_layFirst 16 = .ok (.invokestatic 48, 3) := by decide +kernel
theorem d_LG_layFirst_19 : decode b_LG_layFirst 19 = .ok (.iconst 0, 1) := by decide +kernel
theorem d_LG_layFirst_20 : decode b_LG_layFirst 20 = .ok (.istore_n 2, 1) := by decide +kernel
theorem d_LG_layFirst_21 : decode b_LG_layFirst 21 = .ok (.iload_n 2, 1) := by decide +kernel
theorem d_LG_layFirst_22 : decode b_LG_layFirst 22 = .ok (.bipush 16, 2) := by decide +kernel
theorem d_LG_layFirst_24 : decode b_LG_layFirst 24 = .ok (.if_icmp .ge 28, 3) := by decide +kernel
theorem d_LG_layFirst_27 : decode b_LG_layFirst 27 = .ok (.aload_n 0, 1) := by decide +kernel
theorem d_LG_layFirst_28 : decode b_LG_layFirst 28 = .ok (.getfield 40, 3) := by decide +kernel
theorem d_LG_layFirst_31 : decode b_LG_layFirst 31 = .ok (.getfield 52, 3) := by decide +kernel
theorem d_LG_layFirst_34 : decode b_LG_layFirst 34 = .ok (.iload_n 2, 1) := by decide +kernel
theorem d_LG_layFirst_35 : decode b_LG_layFirst 35 = .ok (.aload_n 0, 1) := by decide +kernel
theorem d_LG_layFirst_36 : decode b_LG_layFirst 36 = .ok (.getfield 9, 3) := by decide +kernel
theorem d_LG_layFirst_39 : decode b_LG_layFirst 39 = .ok (.iload_n 2, 1) := by decide +kernel
theorem d_LG_layFirst_40 : decode b_LG_layFirst 40 = .ok (.invokestatic 57, 3) := by decide +kernel
theorem d_LG_layFirst_43 : decode b_LG_layFirst 43 = .ok (.invokestatic 61, 3) := by decide +kernel
theorem d_LG_layFirst_46 : decode b_LG_layFirst 46 = .ok (.iinc 2 1, 3) := by decide +kernel
theorem d_LG_layFirst_49 : decode b_LG_layFirst 49 = .ok (.goto (-28), 3) := by decide +kernel
theorem d_LG_layFirst_52 : decode b_LG_layFirst 52 = .ok (.aload_n 0, 1) := by decide +kernel
theorem d_LG_layFirst_53 : decode b_LG_layFirst 53 = .ok (.invokevirtual 65, 3) := by decide +kernel
theorem d_LG_layFirst_56 : decode b_LG_layFirst 56 = .ok (.return_, 1) := by decide +kernel
theorem d_LG_append_0 : decode b_LG_append 0 = .ok (.aload_n 0, 1) := by decide +kernel
theorem d_LG_append_1 : decode b_LG_append 1 = .ok (.iload_n 1, 1) := by decide +kernel
theorem d_LG_append_2 : decode b_LG_append 2 = .ok (.iload_n 2, 1) := by decide +kernel
theorem d_LG_append_3 : decode b_LG_append 3 = .ok (.iload_n 3, 1) := by decide +kernel
theorem d_LG_append_4 : decode b_LG_append 4 = .ok (.iload 4, 2) := by decide +kernel
theorem d_LG_append_6 : decode b_LG_append 6 = .ok (.iload 5, 2) := by decide +kernel
theorem d_LG_append_8 : decode b_LG_append 8 = .ok (.invokevirtual 44, 3) := by decide +kernel
theorem d_LG_append_11 : decode b_LG_append 11 = .ok (.aload_n 0, 1) := by decide +kernel
theorem d_LG_append_12 : decode b_LG_append 12 = .ok (.getfield 9, 3) := by decide +kernel
theorem d_LG_append_15 : decode b_LG_append 15 = .ok (.iconst 0, 1) := by decide +kernel
theorem d_LG_append_16 : decode b_LG_append 16 = .ok (.iconst 4, 1) := by decide +kernel
theorem d_LG_append_17 : decode b_LG_append 17 = .ok (.aload_n 0, 1) := by decide +kernel
theorem d_LG_append_18 : decode b_LG_append 18 = .ok (.getfield 22, 3) := by decide +kernel
theorem d_LG_append_21 : decode b_LG_append 21 = .ok (.iconst 1, 1) := by decide +kernel
theorem d_LG_append_22 : decode b_LG_append 22 = .ok (.iadd, 1) := by decide +kernel
theorem d_LG_append_23 : decode b_LG_append 23 = .ok (.i2l, 1) := by decide +kernel
theorem d_LG_append_24 : decode b_LG_append 24 = .ok (.invokestatic 48, 3) := by decide +kernel
theorem d_LG_append_27 : decode b_LG_append 27 = .ok (.aload_n 0, 1) := by decide +kernel
theorem d_LG_append_28 : decode b_LG_append 28 = .ok (.invokevirtual 86, 3) := by decide +kernel
theorem d_LG_append_31 : decode b_LG_append 31 = .ok (.istore 6, 2) := by decide +kernel
theorem d_LG_append_33 : decode b_LG_append 33 = .ok (.iconst 1, 1) := by decide +kernel
theorem d_LG_append_34 : decode b_LG_append 34 = .ok (.istore 7, 2) := by decide +kernel
theorem d_LG_append_36 : decode b_LG_append 36 = .ok (.iload 6, 2) := by decide +kernel
theorem d_LG_append_38 : decode b_LG_append 38 = .ok (.iconst (-1), 1) := by decide +kernel
theorem d_LG_append_39 : decode b_LG_append 39 = .ok (.if_icmp .ne 33, 3) := by decide +kernel
theorem d_LG_append_42 : decode b_LG_append 42 = .ok (.aload_n 0, 1) := by decide +kernel
theorem d_LG_append_43 : decode b_LG_append 43 = .ok (.getfield 19, 3) := by decide +kernel
theorem d_LG_append_46 : decode b_LG_append 46 = .ok (.bipush 64, 2) := by decide +kernel
theorem d_LG_append_48 : decode b_LG_append 48 = .ok (.idiv, 1) := by decide +kernel
theorem d_LG_append_49 : decode b_LG_append 49 = .ok (.invokestatic 90, 3) := by decide +kernel
theorem d_LG_append_52 : decode b_LG_append 52 = .ok (.istore 8, 2) := by decide +kernel
theorem d_LG_append_54 : decode b_LG_append 54 = .ok (.iload 8, 2) := by decide +kernel
theorem d_LG_append_56 : decode b_LG_append 56 = .ok (.bipush 64, 2) := by decide +kernel
theorem d_LG_append_58 : decode b_LG_append 58 = .ok (.imul, 1) := by decide +kernel
theorem d_LG_append_59 : decode b_LG_append 59 = .ok (.istore 6, 2) := by decide +kernel
theorem d_LG_append_61 : decode b_LG_append 61 = .ok (.aload_n 0, 1) := by decide +kernel
theorem d_LG_append_62 : decode b_LG_append 62 = .ok (.getfield 40, 3) := by decide +kernel
theorem d_LG_append_65 : decode b_LG_append 65 = .ok (.iload 8, 2) := by decide +kernel
theorem d_LG_append_67 : decode b_LG_append 67 = .ok (.invokevirtual 94, 3) := by decide +kernel
theorem d_LG_append_70 : decode b_LG_append 70 = .ok (.istore 7, 2) := by decide +kernel
theorem d_LG_append_72 : decode b_LG_append 72 = .ok (.iload 7, 2) := by decide +kernel
theorem d_LG_append_74 : decode b_LG_append 74 = .ok (.ifCond .eq 24, 3) := by decide +kernel
theorem d_LG_append_77 : decode b_LG_append 77 = .ok (.aload_n 0, 1) := by decide +kernel
theorem d_LG_append_78 : decode b_LG_append 78 = .ok (.getfield 40, 3) := by decide +kernel
theorem d_LG_append_81 : decode b_LG_append 81 = .ok (.iload 6, 2) := by decide +kernel
theorem d_LG_append_83 : decode b_LG_append 83 = .ok (.aload_n 0, 1) := by decide +kernel
theorem d_LG_append_84 : decode b_LG_append 84 = .ok (.getfield 9, 3) := by decide +kernel
theorem d_LG_append_87 : decode b_LG_append 87 = .ok (.iconst 0, 1) := by decide +kernel
theorem d_LG_append_88 : decode b_LG_append 88 = .ok (.invokevirtual 97, 3) := by decide +kernel
theorem d_LG_append_91 : decode b_LG_append 91 = .ok (.ifCond .eq 7, 3) := by decide +kernel
theorem d_LG_append_94 : decode b_LG_append 94 = .ok (.iconst 1, 1) := by decide +kernel
theorem d_LG_append_95 : decode b_LG_append 95 = .ok (.goto 4, 3) := by decide +kernel
theorem d_LG_append_98 : decode b_LG_append 98 = .ok (.iconst 0, 1) := by decide +kernel
theorem d_LG_append_99 : decode b_LG_append 99 = .ok (.istore 7, 2) := by decide +kernel
theorem d_LG_append_101 : decode b_LG_append 101 = .ok (.iload 7, 2) := by decide +kernel
theorem d_LG_append_103 : decode b_LG_append 103 = .ok (.ifCond .eq 13, 3) := by decide +kernel
theorem d_LG_append_106 : decode b_LG_append 106 = .ok (.aload_n 0, 1) := by decide +kernel
theorem d_LG_append_107 : decode b_LG_append 107 = .ok (.dup, 1) := by decide +kernel
theorem d_LG_append_108 : decode b_LG_append 108 = .ok (.getfield 15, 3) := by decide +kernel
theorem d_LG_append_111 : decode b_LG_append 111 = .ok (.iconst 1, 1) := by decide +kernel
theorem d_LG_append_112 : decode b_LG_append 112 = .ok (.iadd, 1) := by decide +kernel
theorem d_LG_append_113 : decode b_LG_append 113 = .ok (.putfield 15, 3) := by decide +kernel
theorem d_LG_append_116 : decode b_LG_append 116 = .ok (.aload_n 0, 1) := by decide +kernel
theorem d_LG_append_117 : decode b_LG_append 117 = .ok (.invokevirtual 65, 3) := by decide +kernel
theorem d_LG_append_120 : decode b_LG_append 120 = .ok (.iload 7, 2) := by decide +kernel
theorem d_LG_append_122 : decode b_LG_append 122 = .ok (.ireturn, 1) := by decide +kernel
theorem d_LG_appendTrying_0 : decode b_LG_appendTrying 0 = .ok (.aload_n 0, 1) := by decide +kernel
theorem d_LG_appendTrying_1 : decode b_LG_appendTrying 1 = .ok (.aload_n 0, 1) := by decide +kernel
theorem d_LG_appendTrying_2 : decode b_LG_appendTrying 2 = .ok (.getfield 25, 3) := by decide +kernel
theorem d_LG_appendTrying_5 : decode b_LG_appendTrying 5 = .ok (.iload_n 1, 1) := by decide +kernel
theorem d_LG_appendTrying_6 : decode b_LG_appendTrying 6 = .ok (.iload_n 2, 1) := by decide +kernel
theorem d_LG_appendTrying_7 : decode b_LG_appendTrying 7 = .ok (.aload_n 0, 1) := by decide +kernel
theorem d_LG_appendTrying_8 : decode b_LG_appendTrying 8 = .ok (.getfield 34, 3) := by decide +kernel
theorem d_LG_appendTrying_11 : decode b_LG_appendTrying 11 = .ok (.aload_n 0, 1) := by decide +kernel
theorem d_LG_appendTrying_12 : decode b_LG_appendTrying 12 = .ok (.getfield 37, 3) := by decide +kernel
theorem d_LG_appendTrying_15 : decode b_LG_appendTrying 15 = .ok (.invokevirtual 82, 3) := by decide +kernel
theorem d_LG_appendTrying_18 : decode b_LG_appendTrying 18 = .ok (.ireturn, 1) := by decide +kernel
theorem d_LG_appendActive_0 : decode b_LG_appendActive 0 = .ok (.aload_n 0, 1) := by decide +kernel
theorem d_LG_appendActive_1 : decode b_LG_appendActive 1 = .ok (.iload_n 1, 1) := by decide +kernel
theorem d_LG_appendActive_2 : decode b_LG_appendActive 2 = .ok (.aload_n 0, 1) := by decide +kernel
theorem d_LG_appendActive_3 : decode b_LG_appendActive 3 = .ok (.getfield 28, 3) := by decide +kernel
theorem d_LG_appendActive_6 : decode b_LG_appendActive 6 = .ok (.aload_n 0, 1) := by decide +kernel
theorem d_LG_appendActive_7 : decode b_LG_appendActive 7 = .ok (.getfield 31, 3) := by decide +kernel
theorem d_LG_appendActive_10 : decode b_LG_appendActive 10 = .ok (.aload_n 0, 1) := by decide +kernel
theorem d_LG_appendActive_11 : decode b_LG_appendActive 11 = .ok (.getfield 34, 3) := by decide +kernel
theorem d_LG_appendActive_14 : decode b_LG_appendActive 14 = .ok (.aload_n 0, 1) := by decide +kernel
theorem d_LG_appendActive_15 : decode b_LG_appendActive 15 = .ok (.getfield 37, 3) := by decide +kernel
theorem d_LG_appendActive_18 : decode b_LG_appendActive 18 = .ok (.invokevirtual 82, 3) := by decide +kernel
theorem d_LG_appendActive_21 : decode b_LG_appendActive 21 = .ok (.ireturn, 1) := by decide +kernel
theorem d_LG_appendConfirmed_0 : decode b_LG_appendConfirmed 0 = .ok (.aload_n 0, 1) := by decide +kernel
theorem d_LG_appendConfirmed_1 : decode b_LG_appendConfirmed 1 = .ok (.iload_n 1, 1) := by decide +kernel
theorem d_LG_appendConfirmed_2 : decode b_LG_appendConfirmed 2 = .ok (.iconst (-1), 1) := by decide +kernel
theorem d_LG_appendConfirmed_3 : decode b_LG_appendConfirmed 3 = .ok (.iconst 0, 1) := by decide +kernel
theorem d_LG_appendConfirmed_4 : decode b_LG_appendConfirmed 4 = .ok (.aload_n 0, 1) := by decide +kernel
theorem d_LG_appendConfirmed_5 : decode b_LG_appendConfirmed 5 = .ok (.getfield 34, 3) := by decide +kernel
theorem d_LG_appendConfirmed_8 : decode b_LG_appendConfirmed 8 = .ok (.iload_n 2, 1) := by decide +kernel
theorem d_LG_appendConfirmed_9 : decode b_LG_appendConfirmed 9 = .ok (.invokevirtual 82, 3) := by decide +kernel
theorem d_LG_appendConfirmed_12 : decode b_LG_appendConfirmed 12 = .ok (.ireturn, 1) := by decide +kernel
theorem d_LG_appendRevoked_0 : decode b_LG_appendRevoked 0 = .ok (.aload_n 0, 1) := by decide +kernel
theorem d_LG_appendRevoked_1 : decode b_LG_appendRevoked 1 = .ok (.aload_n 0, 1) := by decide +kernel
theorem d_LG_appendRevoked_2 : decode b_LG_appendRevoked 2 = .ok (.getfield 25, 3) := by decide +kernel
theorem d_LG_appendRevoked_5 : decode b_LG_appendRevoked 5 = .ok (.aload_n 0, 1) := by decide +kernel
theorem d_LG_appendRevoked_6 : decode b_LG_appendRevoked 6 = .ok (.getfield 28, 3) := by decide +kernel
theorem d_LG_appendRevoked_9 : decode b_LG_appendRevoked 9 = .ok (.aload_n 0, 1) := by decide +kernel
theorem d_LG_appendRevoked_10 : decode b_LG_appendRevoked 10 = .ok (.getfield 31, 3) := by decide +kernel
theorem d_LG_appendRevoked_13 : decode b_LG_appendRevoked 13 = .ok (.iload_n 1, 1) := by decide +kernel
theorem d_LG_appendRevoked_14 : decode b_LG_appendRevoked 14 = .ok (.aload_n 0, 1) := by decide +kernel
theorem d_LG_appendRevoked_15 : decode b_LG_appendRevoked 15 = .ok (.getfield 37, 3) := by decide +kernel
theorem d_LG_appendRevoked_18 : decode b_LG_appendRevoked 18 = .ok (.invokevirtual 82, 3) := by decide +kernel
theorem d_LG_appendRevoked_21 : decode b_LG_appendRevoked 21 = .ok (.ireturn, 1) := by decide +kernel
theorem d_TS_keyNumber_0 : decode b_TS_keyNumber 0 = .ok (.aload_n 0, 1) := by decide +kernel
theorem d_TS_keyNumber_1 : decode b_TS_keyNumber 1 = .ok (.getfield 74, 3) := by decide +kernel
theorem d_TS_keyNumber_4 : decode b_TS_keyNumber 4 = .ok (.iload_n 1, 1) := by decide +kernel
theorem d_TS_keyNumber_5 : decode b_TS_keyNumber 5 = .ok (.i2l, 1) := by decide +kernel
theorem d_TS_keyNumber_6 : decode b_TS_keyNumber 6 = .ok (.ldc2_w 269, 3) := by decide +kernel
theorem d_TS_keyNumber_9 : decode b_TS_keyNumber 9 = .ok (.lmul, 1) := by decide +kernel
theorem d_TS_keyNumber_10 : decode b_TS_keyNumber 10 = .ok (.lxor, 1) := by decide +kernel
theorem d_TS_keyNumber_11 : decode b_TS_keyNumber 11 = .ok (.lreturn, 1) := by decide +kernel
theorem d_TS_isBelowCounter_0 : decode b_TS_isBelowCounter 0 = .ok (.iload_n 1, 1) := by decide +kernel
theorem d_TS_isBelowCounter_1 : decode b_TS_isBelowCounter 1 = .ok (.aload_n 0, 1) := by decide +kernel
theorem d_TS_isBelowCounter_2 : decode b_TS_isBelowCounter 2 = .ok (.getfield 21, 3) := by decide +kernel
theorem d_TS_isBelowCounter_5 : decode b_TS_isBelowCounter 5 = .ok (.getfield 198, 3) := by decide +kernel
theorem d_TS_isBelowCounter_8 : decode b_TS_isBelowCounter 8 = .ok (.invokestatic 264, 3) := by decide +kernel
theorem d_TS_isBelowCounter_11 : decode b_TS_isBelowCounter 11 = .ok (.ifCond .ge 7, 3) := by decide +kernel
theorem d_TS_isBelowCounter_14 : decode b_TS_isBelowCounter 14 = .ok (.iconst 1, 1) := by decide +kernel
theorem d_TS_isBelowCounter_15 : decode b_TS_isBelowCounter 15 = .ok (.goto 4, 3) := by decide +kernel
theorem d_TS_isBelowCounter_18 : decode b_TS_isBelowCounter 18 = .ok (.iconst 0, 1) := by decide +kernel
theorem d_TS_isBelowCounter_19 : decode b_TS_isBelowCounter 19 = .ok (.ireturn, 1) := by decide +kernel
theorem d_TS_isRevoked_0 : decode b_TS_isRevoked 0 = .ok (.aload_n 0, 1) := by decide +kernel
theorem d_TS_isRevoked_1 : decode b_TS_isRevoked 1 = .ok (.getfield 21, 3) := by decide +kernel
theorem d_TS_isRevoked_4 : decode b_TS_isRevoked 4 = .ok (.getfield 212, 3) := by decide +kernel
theorem d_TS_isRevoked_7 : decode b_TS_isRevoked 7 = .ok (.iload_n 1, 1) := by decide +kernel
theorem d_TS_isRevoked_8 : decode b_TS_isRevoked 8 = .ok (.ishr, 1) := by decide +kernel
theorem d_TS_isRevoked_9 : decode b_TS_isRevoked 9 = .ok (.iconst 1, 1) := by decide +kernel
theorem d_TS_isRevoked_10 : decode b_TS_isRevoked 10 = .ok (.iand, 1) := by decide +kernel
theorem d_TS_isRevoked_11 : decode b_TS_isRevoked 11 = .ok (.iconst 1, 1) := by decide +kernel
theorem d_TS_isRevoked_12 : decode b_TS_isRevoked 12 = .ok (.if_icmp .ne 7, 3) := by decide +kernel
theorem d_TS_isRevoked_15 : decode b_TS_isRevoked 15 = .ok (.iconst 1, 1) := by decide +kernel
theorem d_TS_isRevoked_16 : decode b_TS_isRevoked 16 = .ok (.goto 4, 3) := by decide +kernel
theorem d_TS_isRevoked_19 : decode b_TS_isRevoked 19 = .ok (.iconst 0, 1) := by decide +kernel
theorem d_TS_isRevoked_20 : decode b_TS_isRevoked 20 = .ok (.ireturn, 1) := by decide +kernel
theorem d_TS_isSheetRight_0 : decode b_TS_isSheetRight 0 = .ok (.aload_n 0, 1) := by decide +kernel
theorem d_TS_isSheetRight_1 : decode b_TS_isSheetRight 1 = .ok (.getfield 43, 3) := by decide +kernel
theorem d_TS_isSheetRight_4 : decode b_TS_isSheetRight 4 = .ok (.invokevirtual 257, 3) := by decide +kernel
theorem d_TS_isSheetRight_7 : decode b_TS_isSheetRight 7 = .ok (.ifCond .eq 42, 3) := by decide +kernel
theorem d_TS_isSheetRight_10 : decode b_TS_isSheetRight 10 = .ok (.aload_n 0, 1) := by decide +kernel
theorem d_TS_isSheetRight_11 : decode b_TS_isSheetRight 11 = .ok (.getfield 43, 3) := by decide +kernel
theorem d_TS_isSheetRight_14 : decode b_TS_isSheetRight 14 = .ok (.aload_n 0, 1) := by decide +kernel
theorem d_TS_isSheetRight_15 : decode b_TS_isSheetRight 15 = .ok (.aload_n 0, 1) := by decide +kernel
theorem d_TS_isSheetRight_16 : decode b_TS_isSheetRight 16 = .ok (.getfield 43, 3) := by decide +kernel
theorem d_TS_isSheetRight_19 : decode b_TS_isSheetRight 19 = .ok (.invokevirtual 207, 3) := by decide +kernel
theorem d_TS_isSheetRight_22 : decode b_TS_isSheetRight 22 = .ok (.invokevirtual 99, 3) := by decide +kernel
theorem d_TS_isSheetRight_25 : decode b_TS_isSheetRight 25 = .ok (.invokevirtual 260, 3) := by decide +kernel
theorem d_TS_isSheetRight_28 : decode b_TS_isSheetRight 28 = .ok (.ifCond .eq 21, 3) := by decide +kernel
theorem d_TS_isSheetRight_31 : decode b_TS_isSheetRight 31 = .ok (.aload_n 0, 1) := by decide +kernel
theorem d_TS_isSheetRight_32 : decode b_TS_isSheetRight 32 = .ok (.aload_n 0, 1) := by decide +kernel
theorem d_TS_isSheetRight_33 : decode b_TS_isSheetRight 33 = .ok (.getfield 43, 3) := by decide +kernel
theorem d_TS_isSheetRight_36 : decode b_TS_isSheetRight 36 = .ok (.invokevirtual 207, 3) := by decide +kernel
theorem d_TS_isSheetRight_39 : decode b_TS_isSheetRight 39 = .ok (.invokevirtual 209, 3) := by decide +kernel
theorem d_TS_isSheetRight_42 : decode b_TS_isSheetRight 42 = .ok (.ifCond .ne 7, 3) := by decide +kernel
theorem d_TS_isSheetRight_45 : decode b_TS_isSheetRight 45 = .ok (.iconst 1, 1) := by decide +kernel
theorem d_TS_isSheetRight_46 : decode b_TS_isSheetRight 46 = .ok (.goto 4, 3) := by decide +kernel
theorem d_TS_isSheetRight_49 : decode b_TS_isSheetRight 49 = .ok (.iconst 0, 1) := by decide +kernel
theorem d_TS_isSheetRight_50 : decode b_TS_isSheetRight 50 = .ok (.ireturn, 1) := by decide +kernel
theorem d_TS_readHeader_0 : decode b_TS_readHeader 0 = .ok (.aload_n 0, 1) := by decide +kernel
theorem d_TS_readHeader_1 : decode b_TS_readHeader 1 = .ok (.getfield 10, 3) := by decide +kernel
theorem d_TS_readHeader_4 : decode b_TS_readHeader 4 = .ok (.getfield 88, 3) := by decide +kernel
theorem d_TS_readHeader_7 : decode b_TS_readHeader 7 = .ok (.iload_n 1, 1) := by decide +kernel
theorem d_TS_readHeader_8 : decode b_TS_readHeader 8 = .ok (.invokestatic 110, 3) := by decide +kernel
theorem d_TS_readHeader_11 : decode b_TS_readHeader 11 = .ok (.bipush 64, 2) := by decide +kernel
theorem d_TS_readHeader_13 : decode b_TS_readHeader 13 = .ok (.imul, 1) := by decide +kernel
theorem d_TS_readHeader_14 : decode b_TS_readHeader 14 = .ok (.aload_n 0, 1) := by decide +kernel
theorem d_TS_readHeader_15 : decode b_TS_readHeader 15 = .ok (.getfield 43, 3) := by decide +kernel
theorem d_TS_readHeader_18 : decode b_TS_readHeader 18 = .ok (.getfield 107, 3) := by decide +kernel
theorem d_TS_readHeader_21 : decode b_TS_readHeader 21 = .ok (.iconst 0, 1) := by decide +kernel
theorem d_TS_readHeader_22 : decode b_TS_readHeader 22 = .ok (.invokestatic 113, 3) := by decide +kernel
theorem d_TS_readHeader_25 : decode b_TS_readHeader 25 = .ok (.return_, 1) := by decide +kernel
theorem d_TS_bodyDigest_0 : decode b_TS_bodyDigest 0 = .ok (.iload_n 1, 1) := by decide +kernel
theorem d_TS_bodyDigest_1 : decode b_TS_bodyDigest 1 = .ok (.invokestatic 84, 3) := by decide +kernel
theorem d_TS_bodyDigest_4 : decode b_TS_bodyDigest 4 = .ok (.istore 4, 2) := by decide +kernel
theorem d_TS_bodyDigest_6 : decode b_TS_bodyDigest 6 = .ok (.iload_n 2, 1) := by decide +kernel
theorem d_TS_bodyDigest_7 : decode b_TS_bodyDigest 7 = .ok (.invokestatic 271, 3) := by decide +kernel
theorem d_TS_bodyDigest_10 : decode b_TS_bodyDigest 10 = .ok (.aload_n 0, 1) := by decide +kernel
theorem d_TS_bodyDigest_11 : decode b_TS_bodyDigest 11 = .ok (.getfield 10, 3) := by decide +kernel
theorem d_TS_bodyDigest_14 : decode b_TS_bodyDigest 14 = .ok (.getfield 88, 3) := by decide +kernel
theorem d_TS_bodyDigest_17 : decode b_TS_bodyDigest 17 = .ok (.iload 4, 2) := by decide +kernel
theorem d_TS_bodyDigest_19 : decode b_TS_bodyDigest 19 = .ok (.iload 4, 2) := by decide +kernel
theorem d_TS_bodyDigest_21 : decode b_TS_bodyDigest 21 = .ok (.iload_n 3, 1) := by decide +kernel
theorem d_TS_bodyDigest_22 : decode b_TS_bodyDigest 22 = .ok (.bipush 64, 2) := by decide +kernel
theorem d_TS_bodyDigest_24 : decode b_TS_bodyDigest 24 = .ok (.imul, 1) := by decide +kernel
theorem d_TS_bodyDigest_25 : decode b_TS_bodyDigest 25 = .ok (.iadd, 1) := by decide +kernel
theorem d_TS_bodyDigest_26 : decode b_TS_bodyDigest 26 = .ok (.invokestatic 274, 3) := by decide +kernel
theorem d_TS_bodyDigest_29 : decode b_TS_bodyDigest 29 = .ok (.lreturn, 1) := by decide +kernel
theorem d_TS_isGood_0 : decode b_TS_isGood 0 = .ok (.aload_n 0, 1) := by decide +kernel
theorem d_TS_isGood_1 : decode b_TS_isGood 1 = .ok (.iload_n 1, 1) := by decide +kernel
theorem d_TS_isGood_2 : decode b_TS_isGood 2 = .ok (.invokevirtual 195, 3) := by decide +kernel
theorem d_TS_isGood_5 : decode b_TS_isGood 5 = .ok (.aload_n 0, 1) := by decide +kernel
theorem d_TS_isGood_6 : decode b_TS_isGood 6 = .ok (.invokevirtual 154, 3) := by decide +kernel
theorem d_TS_isGood_9 : decode b_TS_isGood 9 = .ok (.ifCond .eq 17, 3) := by decide +kernel
theorem d_TS_isGood_12 : decode b_TS_isGood 12 = .ok (.aload_n 0, 1) := by decide +kernel
theorem d_TS_isGood_13 : decode b_TS_isGood 13 = .ok (.aload_n 0, 1) := by decide +kernel
theorem d_TS_isGood_14 : decode b_TS_isGood 14 = .ok (.getfield 43, 3) := by decide +kernel
theorem d_TS_isGood_17 : decode b_TS_isGood 17 = .ok (.invokevirtual 157, 3) := by decide +kernel
theorem d_TS_isGood_20 : decode b_TS_isGood 20 = .ok (.invokevirtual 160, 3) := by decide +kernel
theorem d_TS_isGood_23 : decode b_TS_isGood 23 = .ok (.ifCond .eq 5, 3) := by decide +kernel
theorem d_TS_isGood_26 : decode b_TS_isGood 26 = .ok (.iconst 0, 1) := by decide +kernel
theorem d_TS_isGood_27 : decode b_TS_isGood 27 = .ok (.ireturn, 1) := by decide +kernel
theorem d_TS_isGood_28 : decode b_TS_isGood 28 = .ok (.aload_n 0, 1) := by decide +kernel
theorem d_TS_isGood_29 : decode b_TS_isGood 29 = .ok (.iload_n 1, 1) := by decide +kernel
theorem d_TS_isGood_30 : decode b_TS_isGood 30 = .ok (.aload_n 0, 1) := by decide +kernel
theorem d_TS_isGood_31 : decode b_TS_isGood 31 = .ok (.getfield 43, 3) := by decide +kernel
theorem d_TS_isGood_34 : decode b_TS_isGood 34 = .ok (.invokevirtual 157, 3) := by decide +kernel
