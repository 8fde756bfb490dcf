/-! Words and rows of the constructors. -/
def y_TS_init : MethodName := ⟨"TwoSlots", "<init>", "(IIJ)V"⟩
abbrev b_TS_init : ByteArray := prog_1_method_1_code
theorem tc_TS_init : Cond.code y_TS_init b_TS_init 9 (none) ∈ TB := mem_tb (i := 55) (by decide +kernel) rfl
theorem tl_TS_obj : Cond.methodLink "TwoSlots" 1 Lib.objectInit ∈ TB := mem_tb (i := 56) (by decide +kernel) rfl
theorem tv_obj : Cond.instanceMethod Lib.objectInit ∈ TB := mem_tb (i := 57) (by decide +kernel) rfl
theorem tc_obj : Cond.code Lib.objectInit ⟨#[0xb1]⟩ 1 none ∈ TB := mem_tb (i := 58) (by decide +kernel) rfl
def y_FL_init : MethodName := ⟨"TwoSlots$Flash", "<init>", "()V"⟩
abbrev b_FL_init : ByteArray := prog_2_method_1_code
theorem tc_FL_init : Cond.code y_FL_init b_FL_init 1 (none) ∈ TB := mem_tb (i := 63) (by decide +kernel) rfl
theorem tl_FL_obj : Cond.methodLink "TwoSlots$Flash" 3 Lib.objectInit ∈ TB := mem_tb (i := 64) (by decide +kernel) rfl
def y_LG_init : MethodName := ⟨"TwoSlots$Log", "<init>", "(LTwoSlots$Flash;)V"⟩
abbrev b_LG_init : ByteArray := prog_4_method_1_code
theorem tc_LG_init : Cond.code y_LG_init b_LG_init 2 (none) ∈ TB := mem_tb (i := 99) (by decide +kernel) rfl
theorem tl_LG_obj : Cond.methodLink "TwoSlots$Log" 3 Lib.objectInit ∈ TB := mem_tb (i := 100) (by decide +kernel) rfl
def y_MK_init : MethodName := ⟨"TwoSlots$Maker", "<init>", "()V"⟩
abbrev b_MK_init : ByteArray := prog_5_method_1_code
theorem tc_MK_init : Cond.code y_MK_init b_MK_init 1 (none) ∈ TB := mem_tb (i := 144) (by decide +kernel) rfl
theorem tl_MK_obj : Cond.methodLink "TwoSlots$Maker" 3 Lib.objectInit ∈ TB := mem_tb (i := 145) (by decide +kernel) rfl
def y_HD_init : MethodName := ⟨"TwoSlots$Header", "<init>", "()V"⟩
abbrev b_HD_init : ByteArray := prog_3_method_1_code
theorem tc_HD_init : Cond.code y_HD_init b_HD_init 1 (none) ∈ TB := mem_tb (i := 167) (by decide +kernel) rfl
theorem tl_HD_obj : Cond.methodLink "TwoSlots$Header" 3 Lib.objectInit ∈ TB := mem_tb (i := 168) (by decide +kernel) rfl
def y_MO_init : MethodName := ⟨"TwoSlotsModel", "<init>", "(IIJ)V"⟩
abbrev b_MO_init : ByteArray := prog_7_method_1_code
theorem tc_MO_init : Cond.code y_MO_init b_MO_init 11 (none) ∈ TB := mem_tb (i := 537) (by decide +kernel) rfl
theorem tl_MO_obj : Cond.methodLink "TwoSlotsModel" 1 Lib.objectInit ∈ TB := mem_tb (i := 538) (by decide +kernel) rfl
def y_JM_floorMod : MethodName := ⟨"java/lang/Math", "floorMod", "(II)I"⟩
abbrev b_JM_floorMod : ByteArray := prog_10_method_50_code
theorem tc_JM_floorMod : Cond.code y_JM_floorMod b_JM_floorMod 3 (some .int) ∈ TB := mem_tb (i := 176) (by decide +kernel) rfl
theorem tn_FL : Cond.instantiable "TwoSlots$Flash" 6 ∈ TB := mem_tb (i := 60) (by decide +kernel) rfl
theorem tv_FL_init : Cond.instanceMethod y_FL_init ∈ TB := mem_tb (i := 62) (by decide +kernel) rfl
theorem tn_LG : Cond.instantiable "TwoSlots$Log" 10 ∈ TB := mem_tb (i := 96) (by decide +kernel) rfl
theorem tv_LG_init : Cond.instanceMethod y_LG_init ∈ TB := mem_tb (i := 98) (by decide +kernel) rfl
theorem tn_MK : Cond.instantiable "TwoSlots$Maker" 4 ∈ TB := mem_tb (i := 141) (by decide +kernel) rfl
theorem tv_MK_init : Cond.instanceMethod y_MK_init ∈ TB := mem_tb (i := 143) (by decide +kernel) rfl
theorem tn_HD : Cond.instantiable "TwoSlots$Header" 1 ∈ TB := mem_tb (i := 164) (by decide +kernel) rfl
theorem tv_HD_init : Cond.instanceMethod y_HD_init ∈ TB := mem_tb (i := 166) (by decide +kernel) rfl
theorem tk_TS_7 : Cond.classLink "TwoSlots" 7 "TwoSlots$Flash" ∈ TB := mem_tb (i := 59) (by decide +kernel) rfl
theorem tl_TS_9 : Cond.methodLink "TwoSlots" 9 y_FL_init ∈ TB := mem_tb (i := 61) (by decide +kernel) rfl
theorem tk_TS_16 : Cond.classLink "TwoSlots" 16 "TwoSlots$Log" ∈ TB := mem_tb (i := 95) (by decide +kernel) rfl
theorem tl_TS_18 : Cond.methodLink "TwoSlots" 18 y_LG_init ∈ TB := mem_tb (i := 97) (by decide +kernel) rfl
theorem tk_TS_25 : Cond.classLink "TwoSlots" 25 "TwoSlots$Maker" ∈ TB := mem_tb (i := 140) (by decide +kernel) rfl
theorem tl_TS_27 : Cond.methodLinkNest "TwoSlots" 27 y_MK_init "TwoSlots" ∈ NW := mem_nw (i := 142) (by decide +kernel) rfl
theorem tk_TS_40 : Cond.classLink "TwoSlots" 40 "TwoSlots$Header" ∈ TB := mem_tb (i := 163) (by decide +kernel) rfl
theorem tl_TS_42 : Cond.methodLinkNest "TwoSlots" 42 y_HD_init "TwoSlots" ∈ NW := mem_nw (i := 165) (by decide +kernel) rfl
theorem ta_byte : Cond.arrayClass .byte ∈ TB := mem_tb (i := 94) (by decide +kernel) rfl
theorem ta_int : Cond.arrayClass .int ∈ TB := mem_tb (i := 619) (by decide +kernel) rfl
theorem tf_MK_18 : Cond.fieldLink "TwoSlots$Maker" 18 "TwoSlots$Maker" "key" "I" ∈ TB := mem_tb (i := 150) (by decide +kernel) rfl
theorem d_TS_init_0 : decode b_TS_init 0 = .ok (.aload_n 0, 1) := by decide +kernel
theorem d_TS_init_1 : decode b_TS_init 1 = .ok (.invokespecial 1, 3) := by decide +kernel
theorem d_TS_init_4 : decode b_TS_init 4 = .ok (.aload_n 0, 1) := by decide +kernel
theorem d_TS_init_5 : decode b_TS_init 5 = .ok (.new 7, 3) := by decide +kernel
theorem d_TS_init_8 : decode b_TS_init 8 = .ok (.dup, 1) := by decide +kernel
theorem d_TS_init_9 : decode b_TS_init 9 = .ok (.invokespecial 9, 3) := by decide +kernel
theorem d_TS_init_12 : decode b_TS_init 12 = .ok (.putfield 10, 3) := by decide +kernel
theorem d_TS_init_15 : decode b_TS_init 15 = .ok (.aload_n 0, 1) := by decide +kernel
theorem d_TS_init_16 : decode b_TS_init 16 = .ok (.new 16, 3) := by decide +kernel
theorem d_TS_init_19 : decode b_TS_init 19 = .ok (.dup, 1) := by decide +kernel
theorem d_TS_init_20 : decode b_TS_init 20 = .ok (.aload_n 0, 1) := by decide +kernel
theorem d_TS_init_21 : decode b_TS_init 21 = .ok (.getfield 10, 3) := by decide +kernel
theorem d_TS_init_24 : decode b_TS_init 24 = .ok (.invokespecial 18, 3) := by decide +kernel
theorem d_TS_init_27 : decode b_TS_init 27 = .ok (.putfield 21, 3) := by decide +kernel
theorem d_TS_init_30 : decode b_TS_init 30 = .ok (.aload_n 0, 1) := by decide +kernel
theorem d_TS_init_31 : decode b_TS_init 31 = .ok (.new 25, 3) := by decide +kernel
theorem d_TS_init_34 : decode b_TS_init 34 = .ok (.dup, 1) := by decide +kernel
theorem d_TS_init_35 : decode b_TS_init 35 = .ok (.invokespecial 27, 3) := by decide +kernel
theorem d_TS_init_38 : decode b_TS_init 38 = .ok (.putfield 28, 3) := by decide +kernel
theorem d_TS_init_41 : decode b_TS_init 41 = .ok (.aload_n 0, 1) := by decide +kernel
theorem d_TS_init_42 : decode b_TS_init 42 = .ok (.bipush 64, 2) := by decide +kernel
theorem d_TS_init_44 : decode b_TS_init 44 = .ok (.newarray .byte, 2) := by decide +kernel
theorem d_TS_init_46 : decode b_TS_init 46 = .ok (.putfield 32, 3) := by decide +kernel
theorem d_TS_init_49 : decode b_TS_init 49 = .ok (.aload_n 0, 1) := by decide +kernel
theorem d_TS_init_50 : decode b_TS_init 50 = .ok (.iconst 0, 1) := by decide +kernel
theorem d_TS_init_51 : decode b_TS_init 51 = .ok (.putfield 36, 3) := by decide +kernel
theorem d_TS_init_54 : decode b_TS_init 54 = .ok (.aload_n 0, 1) := by decide +kernel
theorem d_TS_init_55 : decode b_TS_init 55 = .ok (.new 40, 3) := by decide +kernel
theorem d_TS_init_58 : decode b_TS_init 58 = .ok (.dup, 1) := by decide +kernel
theorem d_TS_init_59 : decode b_TS_init 59 = .ok (.invokespecial 42, 3) := by decide +kernel
theorem d_TS_init_62 : decode b_TS_init 62 = .ok (.putfield 43, 3) := by decide +kernel
theorem d_TS_init_65 : decode b_TS_init 65 = .ok (.aload_n 0, 1) := by decide +kernel
theorem d_TS_init_66 : decode b_TS_init 66 = .ok (.new 40, 3) := by decide +kernel
theorem d_TS_init_69 : decode b_TS_init 69 = .ok (.dup, 1) := by decide +kernel
theorem d_TS_init_70 : decode b_TS_init 70 = .ok (.invokespecial 42, 3) := by decide +kernel
theorem d_TS_init_73 : decode b_TS_init 73 = .ok (.putfield 47, 3) := by decide +kernel
theorem d_TS_init_76 : decode b_TS_init 76 = .ok (.aload_n 0, 1) := by decide +kernel
theorem d_TS_init_77 : decode b_TS_init 77 = .ok (.iconst (-1), 1) := by decide +kernel
theorem d_TS_init_78 : decode b_TS_init 78 = .ok (.putfield 50, 3) := by decide +kernel
theorem d_TS_init_81 : decode b_TS_init 81 = .ok (.aload_n 0, 1) := by decide +kernel
theorem d_TS_init_82 : decode b_TS_init 82 = .ok (.iconst 0, 1) := by decide +kernel
theorem d_TS_init_83 : decode b_TS_init 83 = .ok (.putfield 53, 3) := by decide +kernel
theorem d_TS_init_86 : decode b_TS_init 86 = .ok (.aload_n 0, 1) := by decide +kernel
theorem d_TS_init_87 : decode b_TS_init 87 = .ok (.iconst (-1), 1) := by decide +kernel
theorem d_TS_init_88 : decode b_TS_init 88 = .ok (.putfield 56, 3) := by decide +kernel
theorem d_TS_init_91 : decode b_TS_init 91 = .ok (.aload_n 0, 1) := by decide +kernel
theorem d_TS_init_92 : decode b_TS_init 92 = .ok (.iconst 0, 1) := by decide +kernel
theorem d_TS_init_93 : decode b_TS_init 93 = .ok (.putfield 59, 3) := by decide +kernel
theorem d_TS_init_96 : decode b_TS_init 96 = .ok (.aload_n 0, 1) := by decide +kernel
theorem d_TS_init_97 : decode b_TS_init 97 = .ok (.iconst 0, 1) := by decide +kernel
theorem d_TS_init_98 : decode b_TS_init 98 = .ok (.putfield 62, 3) := by decide +kernel
theorem d_TS_init_101 : decode b_TS_init 101 = .ok (.aload_n 0, 1) := by decide +kernel
theorem d_TS_init_102 : decode b_TS_init 102 = .ok (.iconst 0, 1) := by decide +kernel
theorem d_TS_init_103 : decode b_TS_init 103 = .ok (.putfield 65, 3) := by decide +kernel
theorem d_TS_init_106 : decode b_TS_init 106 = .ok (.aload_n 0, 1) := by decide +kernel
theorem d_TS_init_107 : decode b_TS_init 107 = .ok (.iconst 0, 1) := by decide +kernel
theorem d_TS_init_108 : decode b_TS_init 108 = .ok (.putfield 68, 3) := by decide +kernel
theorem d_TS_init_111 : decode b_TS_init 111 = .ok (.aload_n 0, 1) := by decide +kernel
theorem d_TS_init_112 : decode b_TS_init 112 = .ok (.iconst 0, 1) := by decide +kernel
theorem d_TS_init_113 : decode b_TS_init 113 = .ok (.putfield 71, 3) := by decide +kernel
theorem d_TS_init_116 : decode b_TS_init 116 = .ok (.aload_n 0, 1) := by decide +kernel
theorem d_TS_init_117 : decode b_TS_init 117 = .ok (.lload_n 3, 1) := by decide +kernel
theorem d_TS_init_118 : decode b_TS_init 118 = .ok (.putfield 74, 3) := by decide +kernel
theorem d_TS_init_121 : decode b_TS_init 121 = .ok (.iconst 1, 1) := by decide +kernel
theorem d_TS_init_122 : decode b_TS_init 122 = .ok (.iload_n 2, 1) := by decide +kernel
theorem d_TS_init_123 : decode b_TS_init 123 = .ok (.bipush 30, 2) := by decide +kernel
theorem d_TS_init_125 : decode b_TS_init 125 = .ok (.invokestatic 78, 3) := by decide +kernel
theorem d_TS_init_128 : decode b_TS_init 128 = .ok (.iadd, 1) := by decide +kernel
theorem d_TS_init_129 : decode b_TS_init 129 = .ok (.istore 5, 2) := by decide +kernel
theorem d_TS_init_131 : decode b_TS_init 131 = .ok (.iconst 0, 1) := by decide +kernel
theorem d_TS_init_132 : decode b_TS_init 132 = .ok (.invokestatic 84, 3) := by decide +kernel
theorem d_TS_init_135 : decode b_TS_init 135 = .ok (.istore 6, 2) := by decide +kernel
theorem d_TS_init_137 : decode b_TS_init 137 = .ok (.iconst 0, 1) := by decide +kernel
theorem d_TS_init_138 : decode b_TS_init 138 = .ok (.istore 7, 2) := by decide +kernel
theorem d_TS_init_140 : decode b_TS_init 140 = .ok (.iload 7, 2) := by decide +kernel
theorem d_TS_init_142 : decode b_TS_init 142 = .ok (.iload 5, 2) := by decide +kernel
theorem d_TS_init_144 : decode b_TS_init 144 = .ok (.if_icmp .ge 53, 3) := by decide +kernel
theorem d_TS_init_147 : decode b_TS_init 147 = .ok (.iconst 0, 1) := by decide +kernel
theorem d_TS_init_148 : decode b_TS_init 148 = .ok (.istore 8, 2) := by decide +kernel
theorem d_TS_init_150 : decode b_TS_init 150 = .ok (.iload 8, 2) := by decide +kernel
theorem d_TS_init_152 : decode b_TS_init 152 = .ok (.bipush 64, 2) := by decide +kernel
theorem d_TS_init_154 : decode b_TS_init 154 = .ok (.if_icmp .ge 37, 3) := by decide +kernel
theorem d_TS_init_157 : decode b_TS_init 157 = .ok (.aload_n 0, 1) := by decide +kernel
theorem d_TS_init_158 : decode b_TS_init 158 = .ok (.getfield 10, 3) := by decide +kernel
theorem d_TS_init_161 : decode b_TS_init 161 = .ok (.getfield 88, 3) := by decide +kernel
theorem d_TS_init_164 : decode b_TS_init 164 = .ok (.iload 6, 2) := by decide +kernel
theorem d_TS_init_166 : decode b_TS_init 166 = .ok (.iload 7, 2) := by decide +kernel
theorem d_TS_init_168 : decode b_TS_init 168 = .ok (.bipush 64, 2) := by decide +kernel
theorem d_TS_init_170 : decode b_TS_init 170 = .ok (.imul, 1) := by decide +kernel
theorem d_TS_init_171 : decode b_TS_init 171 = .ok (.iadd, 1) := by decide +kernel
theorem d_TS_init_172 : decode b_TS_init 172 = .ok (.iload 8, 2) := by decide +kernel
theorem d_TS_init_174 : decode b_TS_init 174 = .ok (.iadd, 1) := by decide +kernel
theorem d_TS_init_175 : decode b_TS_init 175 = .ok (.iload 7, 2) := by decide +kernel
theorem d_TS_init_177 : decode b_TS_init 177 = .ok (.iconst 3, 1) := by decide +kernel
theorem d_TS_init_178 : decode b_TS_init 178 = .ok (.iload 8, 2) := by decide +kernel
theorem d_TS_init_180 : decode b_TS_init 180 = .ok (.imul, 1) := by decide +kernel
theorem d_TS_init_181 : decode b_TS_init 181 = .ok (.iadd, 1) := by decide +kernel
theorem d_TS_init_182 : decode b_TS_init 182 = .ok (.invokestatic 91, 3) := by decide +kernel
theorem d_TS_init_185 : decode b_TS_init 185 = .ok (.iinc 8 1, 3) := by decide +kernel
theorem d_TS_init_188 : decode b_TS_init 188 = .ok (.goto (-38), 3) := by decide +kernel
theorem d_TS_init_191 : decode b_TS_init 191 = .ok (.iinc 7 1, 3) := by decide +kernel
theorem d_TS_init_194 : decode b_TS_init 194 = .ok (.goto (-54), 3) := by decide +kernel
theorem d_TS_init_197 : decode b_TS_init 197 = .ok (.aload_n 0, 1) := by decide +kernel
theorem d_TS_init_198 : decode b_TS_init 198 = .ok (.iconst 0, 1) := by decide +kernel
theorem d_TS_init_199 : decode b_TS_init 199 = .ok (.iload_n 1, 1) := by decide +kernel
theorem d_TS_init_200 : decode b_TS_init 200 = .ok (.iload 5, 2) := by decide +kernel
theorem d_TS_init_202 : decode b_TS_init 202 = .ok (.invokevirtual 95, 3) := by decide +kernel
theorem d_TS_init_205 : decode b_TS_init 205 = .ok (.lstore 7, 2) := by decide +kernel
theorem d_TS_init_207 : decode b_TS_init 207 = .ok (.aload_n 0, 1) := by decide +kernel
theorem d_TS_init_208 : decode b_TS_init 208 = .ok (.getfield 43, 3) := by decide +kernel
theorem d_TS_init_211 : decode b_TS_init 211 = .ok (.iload_n 1, 1) := by decide +kernel
theorem d_TS_init_212 : decode b_TS_init 212 = .ok (.iload 5, 2) := by decide +kernel
theorem d_TS_init_214 : decode b_TS_init 214 = .ok (.iconst 0, 1) := by decide +kernel
theorem d_TS_init_215 : decode b_TS_init 215 = .ok (.lload 7, 2) := by decide +kernel
theorem d_TS_init_217 : decode b_TS_init 217 = .ok (.aload_n 0, 1) := by decide +kernel
theorem d_TS_init_218 : decode b_TS_init 218 = .ok (.iconst 0, 1) := by decide +kernel
theorem d_TS_init_219 : decode b_TS_init 219 = .ok (.invokevirtual 99, 3) := by decide +kernel
theorem d_TS_init_222 : decode b_TS_init 222 = .ok (.invokevirtual 103, 3) := by decide +kernel
theorem d_TS_init_225 : decode b_TS_init 225 = .ok (.aload_n 0, 1) := by decide +kernel
theorem d_TS_init_226 : decode b_TS_init 226 = .ok (.getfield 43, 3) := by decide +kernel
theorem d_TS_init_229 : decode b_TS_init 229 = .ok (.getfield 107, 3) := by decide +kernel
theorem d_TS_init_232 : decode b_TS_init 232 = .ok (.iconst 0, 1) := by decide +kernel
theorem d_TS_init_233 : decode b_TS_init 233 = .ok (.aload_n 0, 1) := by decide +kernel
theorem d_TS_init_234 : decode b_TS_init 234 = .ok (.getfield 10, 3) := by decide +kernel
theorem d_TS_init_237 : decode b_TS_init 237 = .ok (.getfield 88, 3) := by decide +kernel
theorem d_TS_init_240 : decode b_TS_init 240 = .ok (.iconst 0, 1) := by decide +kernel
theorem d_TS_init_241 : decode b_TS_init 241 = .ok (.invokestatic 110, 3) := by decide +kernel
theorem d_TS_init_244 : decode b_TS_init 244 = .ok (.bipush 64, 2) := by decide +kernel
theorem d_TS_init_246 : decode b_TS_init 246 = .ok (.imul, 1) := by decide +kernel
theorem d_TS_init_247 : decode b_TS_init 247 = .ok (.invokestatic 113, 3) := by decide +kernel
theorem d_TS_init_250 : decode b_TS_init 250 = .ok (.aload_n 0, 1) := by decide +kernel
theorem d_TS_init_251 : decode b_TS_init 251 = .ok (.getfield 21, 3) := by decide +kernel
theorem d_TS_init_254 : decode b_TS_init 254 = .ok (.iload_n 1, 1) := by decide +kernel
theorem d_TS_init_255 : decode b_TS_init 255 = .ok (.invokevirtual 117, 3) := by decide +kernel
theorem d_TS_init_258 : decode b_TS_init 258 = .ok (.return_, 1) := by decide +kernel
theorem d_FL_init_0 : decode b_FL_init 0 = .ok (.aload_n 0, 1) := by decide +kernel
theorem d_FL_init_1 : decode b_FL_init 1 = .ok (.invokespecial 3, 3) := by decide +kernel
theorem d_FL_init_4 : decode b_FL_init 4 = .ok (.aload_n 0, 1) := by decide +kernel
theorem d_FL_init_5 : decode b_FL_init 5 = .ok (.sipush 4096, 3) := by decide +kernel
theorem d_FL_init_8 : decode b_FL_init 8 = .ok (.newarray .byte, 2) := by decide +kernel
theorem d_FL_init_10 : decode b_FL_init 10 = .ok (.putfield 9, 3) := by decide +kernel
theorem d_FL_init_13 : decode b_FL_init 13 = .ok (.aload_n 0, 1) := by decide +kernel
theorem d_FL_init_14 : decode b_FL_init 14 = .ok (.iconst (-1), 1) := by decide +kernel
theorem d_FL_init_15 : decode b_FL_init 15 = .ok (.putfield 15, 3) := by decide +kernel
theorem d_FL_init_18 : decode b_FL_init 18 = .ok (.aload_n 0, 1) := by decide +kernel
theorem d_FL_init_19 : decode b_FL_init 19 = .ok (.iconst 0, 1) := by decide +kernel
theorem d_FL_init_20 : decode b_FL_init 20 = .ok (.putfield 19, 3) := by decide +kernel
theorem d_FL_init_23 : decode b_FL_init 23 = .ok (.aload_n 0, 1) := by decide +kernel
theorem d_FL_init_24 : decode b_FL_init 24 = .ok (.iconst 0, 1) := by decide +kernel
theorem d_FL_init_25 : decode b_FL_init 25 = .ok (.putfield 22, 3) := by decide +kernel
theorem d_FL_init_28 : decode b_FL_init 28 = .ok (.aload_n 0, 1) := by decide +kernel
theorem d_FL_init_29 : decode b_FL_init 29 = .ok (.iconst 0, 1) := by decide +kernel
theorem d_FL_init_30 : decode b_FL_init 30 = .ok (.putfield 26, 3) := by decide +kernel
theorem d_FL_init_33 : decode b_FL_init 33 = .ok (.aload_n 0, 1) := by decide +kernel
theorem d_FL_init_34 : decode b_FL_init 34 = .ok (.iconst 0, 1) := by decide +kernel
theorem d_FL_init_35 : decode b_FL_init 35 = .ok (.putfield 29, 3) := by decide +kernel
theorem d_FL_init_38 : decode b_FL_init 38 = .ok (.aload_n 0, 1) := by decide +kernel
theorem d_FL_init_39 : decode b_FL_init 39 = .ok (.getfield 9, 3) := by decide +kernel
theorem d_FL_init_42 : decode b_FL_init 42 = .ok (.iconst (-1), 1) := by decide +kernel
theorem d_FL_init_43 : decode b_FL_init 43 = .ok (.invokestatic 32, 3) := by decide +kernel
theorem d_FL_init_46 : decode b_FL_init 46 = .ok (.return_, 1) := by decide +kernel
theorem d_LG_init_0 : decode b_LG_init 0 = .ok (.aload_n 0, 1) := by decide +kernel
theorem d_LG_init_1 : decode b_LG_init 1 = .ok (.invokespecial 3, 3) := by decide +kernel
theorem d_LG_init_4 : decode b_LG_init 4 = .ok (.aload_n 0, 1) := by decide +kernel
theorem d_LG_init_5 : decode b_LG_init 5 = .ok (.bipush 16, 2) := by decide +kernel
theorem d_LG_init_7 : decode b_LG_init 7 = .ok (.newarray .byte, 2) := by decide +kernel
theorem d_LG_init_9 : decode b_LG_init 9 = .ok (.putfield 9, 3) := by decide +kernel
theorem d_LG_init_12 : decode b_LG_init 12 = .ok (.aload_n 0, 1) := by decide +kernel
theorem d_LG_init_13 : decode b_LG_init 13 = .ok (.iconst 0, 1) := by decide +kernel
theorem d_LG_init_14 : decode b_LG_init 14 = .ok (.putfield 15, 3) := by decide +kernel
theorem d_LG_init_17 : decode b_LG_init 17 = .ok (.aload_n 0, 1) := by decide +kernel
theorem d_LG_init_18 : decode b_LG_init 18 = .ok (.iconst (-1), 1) := by decide +kernel
theorem d_LG_init_19 : decode b_LG_init 19 = .ok (.putfield 19, 3) := by decide +kernel
theorem d_LG_init_22 : decode b_LG_init 22 = .ok (.aload_n 0, 1) := by decide +kernel
theorem d_LG_init_23 : decode b_LG_init 23 = .ok (.iconst 0, 1) := by decide +kernel
theorem d_LG_init_24 : decode b_LG_init 24 = .ok (.putfield 22, 3) := by decide +kernel
theorem d_LG_init_27 : decode b_LG_init 27 = .ok (.aload_n 0, 1) := by decide +kernel
theorem d_LG_init_28 : decode b_LG_init 28 = .ok (.iconst (-1), 1) := by decide +kernel
theorem d_LG_init_29 : decode b_LG_init 29 = .ok (.putfield 25, 3) := by decide +kernel
theorem d_LG_init_32 : decode b_LG_init 32 = .ok (.aload_n 0, 1) := by decide +kernel
theorem d_LG_init_33 : decode b_LG_init 33 = .ok (.iconst (-1), 1) := by decide +kernel
theorem d_LG_init_34 : decode b_LG_init 34 = .ok (.putfield 28, 3) := by decide +kernel
theorem d_LG_init_37 : decode b_LG_init 37 = .ok (.aload_n 0, 1) := by decide +kernel
theorem d_LG_init_38 : decode b_LG_init 38 = .ok (.iconst 0, 1) := by decide +kernel
theorem d_LG_init_39 : decode b_LG_init 39 = .ok (.putfield 31, 3) := by decide +kernel
theorem d_LG_init_42 : decode b_LG_init 42 = .ok (.aload_n 0, 1) := by decide +kernel
theorem d_LG_init_43 : decode b_LG_init 43 = .ok (.iconst 0, 1) := by decide +kernel
theorem d_LG_init_44 : decode b_LG_init 44 = .ok (.putfield 34, 3) := by decide +kernel
theorem d_LG_init_47 : decode b_LG_init 47 = .ok (.aload_n 0, 1) := by decide +kernel
theorem d_LG_init_48 : decode b_LG_init 48 = .ok (.iconst 0, 1) := by decide +kernel
theorem d_LG_init_49 : decode b_LG_init 49 = .ok (.putfield 37, 3) := by decide +kernel
theorem d_LG_init_52 : decode b_LG_init 52 = .ok (.aload_n 0, 1) := by decide +kernel
theorem d_LG_init_53 : decode b_LG_init 53 = .ok (.aload_n 1, 1) := by decide +kernel
theorem d_LG_init_54 : decode b_LG_init 54 = .ok (.putfield 40, 3) := by decide +kernel
theorem d_LG_init_57 : decode b_LG_init 57 = .ok (.return_, 1) := by decide +kernel
theorem d_MK_init_0 : decode b_MK_init 0 = .ok (.aload_n 0, 1) := by decide +kernel
theorem d_MK_init_1 : decode b_MK_init 1 = .ok (.invokespecial 3, 3) := by decide +kernel
theorem d_MK_init_4 : decode b_MK_init 4 = .ok (.aload_n 0, 1) := by decide +kernel
theorem d_MK_init_5 : decode b_MK_init 5 = .ok (.iconst 0, 1) := by decide +kernel
theorem d_MK_init_6 : decode b_MK_init 6 = .ok (.putfield 9, 3) := by decide +kernel
theorem d_MK_init_9 : decode b_MK_init 9 = .ok (.aload_n 0, 1) := by decide +kernel
theorem d_MK_init_10 : decode b_MK_init 10 = .ok (.iconst 0, 1) := by decide +kernel
theorem d_MK_init_11 : decode b_MK_init 11 = .ok (.putfield 15, 3) := by decide +kernel
theorem d_MK_init_14 : decode b_MK_init 14 = .ok (.aload_n 0, 1) := by decide +kernel
theorem d_MK_init_15 : decode b_MK_init 15 = .ok (.iconst 0, 1) := by decide +kernel
theorem d_MK_init_16 : decode b_MK_init 16 = .ok (.putfield 18, 3) := by decide +kernel
theorem d_MK_init_19 : decode b_MK_init 19 = .ok (.aload_n 0, 1) := by decide +kernel
theorem d_MK_init_20 : decode b_MK_init 20 = .ok (.iconst 0, 1) := by decide +kernel
theorem d_MK_init_21 : decode b_MK_init 21 = .ok (.putfield 21, 3) := by decide +kernel
theorem d_MK_init_24 : decode b_MK_init 24 = .ok (.return_, 1) := by decide +kernel
theorem d_HD_init_0 : decode b_HD_init 0 = .ok (.aload_n 0, 1) := by decide +kernel
theorem d_HD_init_1 : decode b_HD_init 1 = .ok (.invokespecial 3, 3) := by decide +kernel
theorem d_HD_init_4 : decode b_HD_init 4 = .ok (.aload_n 0, 1) := by decide +kernel
theorem d_HD_init_5 : decode b_HD_init 5 = .ok (.bipush 64, 2) := by decide +kernel
theorem d_HD_init_7 : decode b_HD_init 7 = .ok (.newarray .byte, 2) := by decide +kernel
theorem d_HD_init_9 : decode b_HD_init 9 = .ok (.putfield 9, 3) := by decide +kernel
theorem d_HD_init_12 : decode b_HD_init 12 = .ok (.return_, 1) := by decide +kernel
theorem d_MO_init_0 : decode b_MO_init 0 = .ok (.aload_n 0, 1) := by decide +kernel
theorem d_MO_init_1 : decode b_MO_init 1 = .ok (.invokespecial 1, 3) := by decide +kernel
theorem d_MO_init_4 : decode b_MO_init 4 = .ok (.aload_n 0, 1) := by decide +kernel
theorem d_MO_init_5 : decode b_MO_init 5 = .ok (.sipush 4096, 3) := by decide +kernel
theorem d_MO_init_8 : decode b_MO_init 8 = .ok (.newarray .int, 2) := by decide +kernel
theorem d_MO_init_10 : decode b_MO_init 10 = .ok (.putfield 7, 3) := by decide +kernel
theorem d_MO_init_13 : decode b_MO_init 13 = .ok (.aload_n 0, 1) := by decide +kernel
theorem d_MO_init_14 : decode b_MO_init 14 = .ok (.iconst (-1), 1) := by decide +kernel
theorem d_MO_init_15 : decode b_MO_init 15 = .ok (.putfield 13, 3) := by decide +kernel
theorem d_MO_init_18 : decode b_MO_init 18 = .ok (.aload_n 0, 1) := by decide +kernel
theorem d_MO_init_19 : decode b_MO_init 19 = .ok (.iconst (-1), 1) := by decide +kernel
theorem d_MO_init_20 : decode b_MO_init 20 = .ok (.putfield 17, 3) := by decide +kernel
theorem d_MO_init_23 : decode b_MO_init 23 = .ok (.aload_n 0, 1) := by decide +kernel
theorem d_MO_init_24 : decode b_MO_init 24 = .ok (.bipush 64, 2) := by decide +kernel
theorem d_MO_init_26 : decode b_MO_init 26 = .ok (.newarray .int, 2) := by decide +kernel
theorem d_MO_init_28 : decode b_MO_init 28 = .ok (.putfield 20, 3) := by decide +kernel
theorem d_MO_init_31 : decode b_MO_init 31 = .ok (.aload_n 0, 1) := by decide +kernel
theorem d_MO_init_32 : decode b_MO_init 32 = .ok (.bipush 64, 2) := by decide +kernel
theorem d_MO_init_34 : decode b_MO_init 34 = .ok (.newarray .int, 2) := by decide +kernel
theorem d_MO_init_36 : decode b_MO_init 36 = .ok (.putfield 23, 3) := by decide +kernel
theorem d_MO_init_39 : decode b_MO_init 39 = .ok (.aload_n 0, 1) := by decide +kernel
theorem d_MO_init_40 : decode b_MO_init 40 = .ok (.iconst (-1), 1) := by decide +kernel
theorem d_MO_init_41 : decode b_MO_init 41 = .ok (.putfield 26, 3) := by decide +kernel
theorem d_MO_init_44 : decode b_MO_init 44 = .ok (.aload_n 0, 1) := by decide +kernel
theorem d_MO_init_45 : decode b_MO_init 45 = .ok (.bipush 7, 2) := by decide +kernel
theorem d_MO_init_47 : decode b_MO_init 47 = .ok (.newarray .int, 2) := by decide +kernel
theorem d_MO_init_49 : decode b_MO_init 49 = .ok (.putfield 29, 3) := by decide +kernel
theorem d_MO_init_52 : decode b_MO_init 52 = .ok (.aload_n 0, 1) := by decide +kernel
theorem d_MO_init_53 : decode b_MO_init 53 = .ok (.bipush 64, 2) := by decide +kernel
theorem d_MO_init_55 : decode b_MO_init 55 = .ok (.newarray .int, 2) := by decide +kernel
theorem d_MO_init_57 : decode b_MO_init 57 = .ok (.putfield 32, 3) := by decide +kernel
theorem d_MO_init_60 : decode b_MO_init 60 = .ok (.aload_n 0, 1) := by decide +kernel
theorem d_MO_init_61 : decode b_MO_init 61 = .ok (.bipush 16, 2) := by decide +kernel
theorem d_MO_init_63 : decode b_MO_init 63 = .ok (.newarray .int, 2) := by decide +kernel
theorem d_MO_init_65 : decode b_MO_init 65 = .ok (.putfield 35, 3) := by decide +kernel
theorem d_MO_init_68 : decode b_MO_init 68 = .ok (.aload_n 0, 1) := by decide +kernel
theorem d_MO_init_69 : decode b_MO_init 69 = .ok (.lload_n 3, 1) := by decide +kernel
theorem d_MO_init_70 : decode b_MO_init 70 = .ok (.putfield 38, 3) := by decide +kernel
theorem d_MO_init_73 : decode b_MO_init 73 = .ok (.iconst 0, 1) := by decide +kernel
theorem d_MO_init_74 : decode b_MO_init 74 = .ok (.istore 5, 2) := by decide +kernel
theorem d_MO_init_76 : decode b_MO_init 76 = .ok (.iload 5, 2) := by decide +kernel
theorem d_MO_init_78 : decode b_MO_init 78 = .ok (.sipush 4096, 3) := by decide +kernel
theorem d_MO_init_81 : decode b_MO_init 81 = .ok (.if_icmp .ge 19, 3) := by decide +kernel
theorem d_MO_init_84 : decode b_MO_init 84 = .ok (.aload_n 0, 1) := by decide +kernel
theorem d_MO_init_85 : decode b_MO_init 85 = .ok (.getfield 7, 3) := by decide +kernel
theorem d_MO_init_88 : decode b_MO_init 88 = .ok (.iload 5, 2) := by decide +kernel
theorem d_MO_init_90 : decode b_MO_init 90 = .ok (.sipush 255, 3) := by decide +kernel
theorem d_MO_init_93 : decode b_MO_init 93 = .ok (.iastore, 1) := by decide +kernel
theorem d_MO_init_94 : decode b_MO_init 94 = .ok (.iinc 5 1, 3) := by decide +kernel
theorem d_MO_init_97 : decode b_MO_init 97 = .ok (.goto (-21), 3) := by decide +kernel
theorem d_MO_init_100 : decode b_MO_init 100 = .ok (.iconst 1, 1) := by decide +kernel
theorem d_MO_init_101 : decode b_MO_init 101 = .ok (.iload_n 2, 1) := by decide +kernel
theorem d_MO_init_102 : decode b_MO_init 102 = .ok (.bipush 30, 2) := by decide +kernel
theorem d_MO_init_104 : decode b_MO_init 104 = .ok (.irem, 1) := by decide +kernel
theorem d_MO_init_105 : decode b_MO_init 105 = .ok (.bipush 30, 2) := by decide +kernel
theorem d_MO_init_107 : decode b_MO_init 107 = .ok (.iadd, 1) := by decide +kernel
theorem d_MO_init_108 : decode b_MO_init 108 = .ok (.bipush 30, 2) := by decide +kernel
theorem d_MO_init_110 : decode b_MO_init 110 = .ok (.irem, 1) := by decide +kernel
theorem d_MO_init_111 : decode b_MO_init 111 = .ok (.iadd, 1) := by decide +kernel
theorem d_MO_init_112 : decode b_MO_init 112 = .ok (.istore 5, 2) := by decide +kernel
theorem d_MO_init_114 : decode b_MO_init 114 = .ok (.iload_n 1, 1) := by decide +kernel
theorem d_MO_init_115 : decode b_MO_init 115 = .ok (.i2l, 1) := by decide +kernel
theorem d_MO_init_116 : decode b_MO_init 116 = .ok (.ldc2_w 42, 3) := by decide +kernel
theorem d_MO_init_119 : decode b_MO_init 119 = .ok (.land, 1) := by decide +kernel
theorem d_MO_init_120 : decode b_MO_init 120 = .ok (.lstore 6, 2) := by decide +kernel
theorem d_MO_init_122 : decode b_MO_init 122 = .ok (.iconst 0, 1) := by decide +kernel
theorem d_MO_init_123 : decode b_MO_init 123 = .ok (.istore 8, 2) := by decide +kernel
theorem d_MO_init_125 : decode b_MO_init 125 = .ok (.iload 8, 2) := by decide +kernel
theorem d_MO_init_127 : decode b_MO_init 127 = .ok (.iload 5, 2) := by decide +kernel
theorem d_MO_init_129 : decode b_MO_init 129 = .ok (.if_icmp .ge 64, 3) := by decide +kernel
theorem d_MO_init_132 : decode b_MO_init 132 = .ok (.iconst 0, 1) := by decide +kernel
theorem d_MO_init_133 : decode b_MO_init 133 = .ok (.istore 9, 2) := by decide +kernel
theorem d_MO_init_135 : decode b_MO_init 135 = .ok (.iload 9, 2) := by decide +kernel
theorem d_MO_init_137 : decode b_MO_init 137 = .ok (.bipush 64, 2) := by decide +kernel
theorem d_MO_init_139 : decode b_MO_init 139 = .ok (.if_icmp .ge 48, 3) := by decide +kernel
theorem d_MO_init_142 : decode b_MO_init 142 = .ok (.iload 8, 2) := by decide +kernel
theorem d_MO_init_144 : decode b_MO_init 144 = .ok (.iconst 3, 1) := by decide +kernel
theorem d_MO_init_145 : decode b_MO_init 145 = .ok (.iload 9, 2) := by decide +kernel
theorem d_MO_init_147 : decode b_MO_init 147 = .ok (.imul, 1) := by decide +kernel
theorem d_MO_init_148 : decode b_MO_init 148 = .ok (.iadd, 1) := by decide +kernel
theorem d_MO_init_149 : decode b_MO_init 149 = .ok (.sipush 255, 3) := by decide +kernel
theorem d_MO_init_152 : decode b_MO_init 152 = .ok (.iand, 1) := by decide +kernel
theorem d_MO_init_153 : decode b_MO_init 153 = .ok (.istore 10, 2) := by decide +kernel
theorem d_MO_init_155 : decode b_MO_init 155 = .ok (.aload_n 0, 1) := by decide +kernel
theorem d_MO_init_156 : decode b_MO_init 156 = .ok (.getfield 7, 3) := by decide +kernel
theorem d_MO_init_159 : decode b_MO_init 159 = .ok (.bipush 64, 2) := by decide +kernel
theorem d_MO_init_161 : decode b_MO_init 161 = .ok (.iconst 3, 1) := by decide +kernel
theorem d_MO_init_162 : decode b_MO_init 162 = .ok (.iload 8, 2) := by decide +kernel
theorem d_MO_init_164 : decode b_MO_init 164 = .ok (.iadd, 1) := by decide +kernel
theorem d_MO_init_165 : decode b_MO_init 165 = .ok (.imul, 1) := by decide +kernel
theorem d_MO_init_166 : decode b_MO_init 166 = .ok (.iload 9, 2) := by decide +kernel
theorem d_MO_init_168 : decode b_MO_init 168 = .ok (.iadd, 1) := by decide +kernel
theorem d_MO_init_169 : decode b_MO_init 169 = .ok (.iload 10, 2) := by decide +kernel
theorem d_MO_init_171 : decode b_MO_init 171 = .ok (.iastore, 1) := by decide +kernel
theorem d_MO_init_172 : decode b_MO_init 172 = .ok (.lload 6, 2) := by decide +kernel
theorem d_MO_init_174 : decode b_MO_init 174 = .ok (.iload 10, 2) := by decide +kernel
theorem d_MO_init_176 : decode b_MO_init 176 = .ok (.invokestatic 44, 3) := by decide +kernel
theorem d_MO_init_179 : decode b_MO_init 179 = .ok (.lstore 6, 2) := by decide +kernel
theorem d_MO_init_181 : decode b_MO_init 181 = .ok (.iinc 9 1, 3) := by decide +kernel
theorem d_MO_init_184 : decode b_MO_init 184 = .ok (.goto (-49), 3) := by decide +kernel
theorem d_MO_init_187 : decode b_MO_init 187 = .ok (.iinc 8 1, 3) := by decide +kernel
theorem d_MO_init_190 : decode b_MO_init 190 = .ok (.goto (-65), 3) := by decide +kernel
theorem d_MO_init_193 : decode b_MO_init 193 = .ok (.aload_n 0, 1) := by decide +kernel
theorem d_MO_init_194 : decode b_MO_init 194 = .ok (.iload_n 1, 1) := by decide +kernel
theorem d_MO_init_195 : decode b_MO_init 195 = .ok (.iload 5, 2) := by decide +kernel
theorem d_MO_init_197 : decode b_MO_init 197 = .ok (.iconst 0, 1) := by decide +kernel
theorem d_MO_init_198 : decode b_MO_init 198 = .ok (.lload 6, 2) := by decide +kernel
theorem d_MO_init_200 : decode b_MO_init 200 = .ok (.invokevirtual 48, 3) := by decide +kernel
theorem d_MO_init_203 : decode b_MO_init 203 = .ok (.iconst 0, 1) := by decide +kernel
theorem d_MO_init_204 : decode b_MO_init 204 = .ok (.istore 8, 2) := by decide +kernel
theorem d_MO_init_206 : decode b_MO_init 206 = .ok (.iload 8, 2) := by decide +kernel
theorem d_MO_init_208 : decode b_MO_init 208 = .ok (.bipush 64, 2) := by decide +kernel
theorem d_MO_init_210 : decode b_MO_init 210 = .ok (.if_icmp .ge 27, 3) := by decide +kernel
theorem d_MO_init_213 : decode b_MO_init 213 = .ok (.aload_n 0, 1) := by decide +kernel
theorem d_MO_init_214 : decode b_MO_init 214 = .ok (.getfield 7, 3) := by decide +kernel
theorem d_MO_init_217 : decode b_MO_init 217 = .ok (.sipush 128, 3) := by decide +kernel
theorem d_MO_init_220 : decode b_MO_init 220 = .ok (.iload 8, 2) := by decide +kernel
theorem d_MO_init_222 : decode b_MO_init 222 = .ok (.iadd, 1) := by decide +kernel
theorem d_MO_init_223 : decode b_MO_init 223 = .ok (.aload_n 0, 1) := by decide +kernel
theorem d_MO_init_224 : decode b_MO_init 224 = .ok (.getfield 32, 3) := by decide +kernel
theorem d_MO_init_227 : decode b_MO_init 227 = .ok (.iload 8, 2) := by decide +kernel
theorem d_MO_init_229 : decode b_MO_init 229 = .ok (.iaload, 1) := by decide +kernel
theorem d_MO_init_230 : decode b_MO_init 230 = .ok (.iastore, 1) := by decide +kernel
theorem d_MO_init_231 : decode b_MO_init 231 = .ok (.iinc 8 1, 3) := by decide +kernel
theorem d_MO_init_234 : decode b_MO_init 234 = .ok (.goto (-28), 3) := by decide +kernel
theorem d_MO_init_237 : decode b_MO_init 237 = .ok (.aload_n 0, 1) := by decide +kernel
theorem d_MO_init_238 : decode b_MO_init 238 = .ok (.lconst 1, 1) := by decide +kernel
theorem d_MO_init_239 : decode b_MO_init 239 = .ok (.iconst 0, 1) := by decide +kernel
theorem d_MO_init_240 : decode b_MO_init 240 = .ok (.sipush 255, 3) := by decide +kernel
theorem d_MO_init_243 : decode b_MO_init 243 = .ok (.iconst 0, 1) := by decide +kernel
theorem d_MO_init_244 : decode b_MO_init 244 = .ok (.iconst 0, 1) := by decide +kernel
theorem d_MO_init_245 : decode b_MO_init 245 = .ok (.iload_n 1, 1) := by decide +kernel
theorem d_MO_init_246 : decode b_MO_init 246 = .ok (.i2l, 1) := by decide +kernel
theorem d_MO_init_247 : decode b_MO_init 247 = .ok (.invokevirtual 52, 3) := by decide +kernel
theorem d_MO_init_250 : decode b_MO_init 250 = .ok (.iconst 0, 1) := by decide +kernel
theorem d_MO_init_251 : decode b_MO_init 251 = .ok (.istore 8, 2) := by decide +kernel
theorem d_MO_init_253 : decode b_MO_init 253 = .ok (.iload 8, 2) := by decide +kernel
theorem d_MO_init_255 : decode b_MO_init 255 = .ok (.bipush 16, 2) := by decide +kernel
theorem d_MO_init_257 : decode b_MO_init 257 = .ok (.if_icmp .ge 23, 3) := by decide +kernel
theorem d_MO_init_260 : decode b_MO_init 260 = .ok (.aload_n 0, 1) := by decide +kernel
theorem d_MO_init_261 : decode b_MO_init 261 = .ok (.getfield 7, 3) := by decide +kernel
theorem d_MO_init_264 : decode b_MO_init 264 = .ok (.iload 8, 2) := by decide +kernel
theorem d_MO_init_266 : decode b_MO_init 266 = .ok (.aload_n 0, 1) := by decide +kernel
theorem d_MO_init_267 : decode b_MO_init 267 = .ok (.getfield 35, 3) := by decide +kernel
theorem d_MO_init_270 : decode b_MO_init 270 = .ok (.iload 8, 2) := by decide +kernel
theorem d_MO_init_272 : decode b_MO_init 272 = .ok (.iaload, 1) := by decide +kernel
theorem d_MO_init_273 : decode b_MO_init 273 = .ok (.iastore, 1) := by decide +kernel
theorem d_MO_init_274 : decode b_MO_init 274 = .ok (.iinc 8 1, 3) := by decide +kernel
theorem d_MO_init_277 : decode b_MO_init 277 = .ok (.goto (-24), 3) := by decide +kernel
theorem d_MO_init_280 : decode b_MO_init 280 = .ok (.return_, 1) := by decide +kernel
theorem d_JM_floorMod_0 : decode b_JM_floorMod 0 = .ok (.iload_n 0, 1) := by decide +kernel
theorem d_JM_floorMod_1 : decode b_JM_floorMod 1 = .ok (.iload_n 1, 1) := by decide +kernel
theorem d_JM_floorMod_2 : decode b_JM_floorMod 2 = .ok (.irem, 1) := by decide +kernel
theorem d_JM_floorMod_3 : decode b_JM_floorMod 3 = .ok (.istore_n 2, 1) := by decide +kernel
theorem d_JM_floorMod_4 : decode b_JM_floorMod 4 = .ok (.iload_n 0, 1) := by decide +kernel
theorem d_JM_floorMod_5 : decode b_JM_floorMod 5 = .ok (.iload_n 1, 1) := by decide +kernel
theorem d_JM_floorMod_6 : decode b_JM_floorMod 6 = .ok (.ixor, 1) := by decide +kernel
theorem d_JM_floorMod_7 : decode b_JM_floorMod 7 = .ok (.ifCond .ge 11, 3) := by decide +kernel
theorem d_JM_floorMod_10 : decode b_JM_floorMod 10 = .ok (.iload_n 2, 1) := by decide +kernel
theorem d_JM_floorMod_11 : decode b_JM_floorMod 11 = .ok (.ifCond .eq 7, 3) := by decide +kernel
theorem d_JM_floorMod_14 : decode b_JM_floorMod 14 = .ok (.iload_n 2, 1) := by decide +kernel
theorem d_JM_floorMod_15 : decode b_JM_floorMod 15 = .ok (.iload_n 1, 1) := by decide +kernel
theorem d_JM_floorMod_16 : decode b_JM_floorMod 16 = .ok (.iadd, 1) := by decide +kernel
theorem d_JM_floorMod_17 : decode b_JM_floorMod 17 = .ok (.ireturn, 1) := by decide +kernel
theorem d_JM_floorMod_18 : decode b_JM_floorMod 18 = .ok (.iload_n 2, 1) := by decide +kernel
theorem d_JM_floorMod_19 : decode b_JM_floorMod 19 = .ok (.ireturn, 1) := by decide +kernel
