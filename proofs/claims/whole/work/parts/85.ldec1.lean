/-! Rows of the law. -/
theorem d_LW_law_0 : decode code 0 = .ok (.new 7, 3) := by decide +kernel
theorem d_LW_law_3 : decode code 3 = .ok (.dup, 1) := by decide +kernel
theorem d_LW_law_4 : decode code 4 = .ok (.aload_n 0, 1) := by decide +kernel
theorem d_LW_law_5 : decode code 5 = .ok (.iconst 0, 1) := by decide +kernel
theorem d_LW_law_6 : decode code 6 = .ok (.invokestatic 9, 3) := by decide +kernel
theorem d_LW_law_9 : decode code 9 = .ok (.aload_n 0, 1) := by decide +kernel
theorem d_LW_law_10 : decode code 10 = .ok (.iconst 1, 1) := by decide +kernel
theorem d_LW_law_11 : decode code 11 = .ok (.invokestatic 9, 3) := by decide +kernel
theorem d_LW_law_14 : decode code 14 = .ok (.aload_n 0, 1) := by decide +kernel
theorem d_LW_law_15 : decode code 15 = .ok (.iconst 2, 1) := by decide +kernel
theorem d_LW_law_16 : decode code 16 = .ok (.invokestatic 9, 3) := by decide +kernel
theorem d_LW_law_19 : decode code 19 = .ok (.i2l, 1) := by decide +kernel
theorem d_LW_law_20 : decode code 20 = .ok (.invokespecial 15, 3) := by decide +kernel
theorem d_LW_law_23 : decode code 23 = .ok (.astore_n 1, 1) := by decide +kernel
theorem d_LW_law_24 : decode code 24 = .ok (.new 18, 3) := by decide +kernel
theorem d_LW_law_27 : decode code 27 = .ok (.dup, 1) := by decide +kernel
theorem d_LW_law_28 : decode code 28 = .ok (.aload_n 0, 1) := by decide +kernel
theorem d_LW_law_29 : decode code 29 = .ok (.iconst 0, 1) := by decide +kernel
theorem d_LW_law_30 : decode code 30 = .ok (.invokestatic 9, 3) := by decide +kernel
theorem d_LW_law_33 : decode code 33 = .ok (.aload_n 0, 1) := by decide +kernel
theorem d_LW_law_34 : decode code 34 = .ok (.iconst 1, 1) := by decide +kernel
theorem d_LW_law_35 : decode code 35 = .ok (.invokestatic 9, 3) := by decide +kernel
theorem d_LW_law_38 : decode code 38 = .ok (.aload_n 0, 1) := by decide +kernel
theorem d_LW_law_39 : decode code 39 = .ok (.iconst 2, 1) := by decide +kernel
theorem d_LW_law_40 : decode code 40 = .ok (.invokestatic 9, 3) := by decide +kernel
theorem d_LW_law_43 : decode code 43 = .ok (.i2l, 1) := by decide +kernel
theorem d_LW_law_44 : decode code 44 = .ok (.invokespecial 20, 3) := by decide +kernel
theorem d_LW_law_47 : decode code 47 = .ok (.astore_n 2, 1) := by decide +kernel
theorem d_LW_law_48 : decode code 48 = .ok (.iconst 3, 1) := by decide +kernel
theorem d_LW_law_49 : decode code 49 = .ok (.istore_n 3, 1) := by decide +kernel
theorem d_LW_law_50 : decode code 50 = .ok (.iload_n 3, 1) := by decide +kernel
theorem d_LW_law_51 : decode code 51 = .ok (.aload_n 0, 1) := by decide +kernel
theorem d_LW_law_52 : decode code 52 = .ok (.arraylength, 1) := by decide +kernel
theorem d_LW_law_53 : decode code 53 = .ok (.iconst 5, 1) := by decide +kernel
theorem d_LW_law_54 : decode code 54 = .ok (.isub, 1) := by decide +kernel
theorem d_LW_law_55 : decode code 55 = .ok (.if_icmp .gt 554, 3) := by decide +kernel
theorem d_LW_law_58 : decode code 58 = .ok (.aload_n 0, 1) := by decide +kernel
theorem d_LW_law_59 : decode code 59 = .ok (.iload_n 3, 1) := by decide +kernel
theorem d_LW_law_60 : decode code 60 = .ok (.iaload, 1) := by decide +kernel
theorem d_LW_law_61 : decode code 61 = .ok (.bipush 31, 2) := by decide +kernel
theorem d_LW_law_63 : decode code 63 = .ok (.iand, 1) := by decide +kernel
theorem d_LW_law_64 : decode code 64 = .ok (.tableswitch 539 0 18 #[92, 145, 168, 201, 214, 227, 240, 253, 266, 289, 312, 345, 358, 401, 434, 447, 460, 493, 516], 92) := by decide +kernel
theorem d_LW_law_156 : decode code 156 = .ok (.aload_n 1, 1) := by decide +kernel
theorem d_LW_law_157 : decode code 157 = .ok (.aload_n 0, 1) := by decide +kernel
theorem d_LW_law_158 : decode code 158 = .ok (.iload_n 3, 1) := by decide +kernel
theorem d_LW_law_159 : decode code 159 = .ok (.iconst 1, 1) := by decide +kernel
theorem d_LW_law_160 : decode code 160 = .ok (.iadd, 1) := by decide +kernel
theorem d_LW_law_161 : decode code 161 = .ok (.iaload, 1) := by decide +kernel
theorem d_LW_law_162 : decode code 162 = .ok (.aload_n 0, 1) := by decide +kernel
theorem d_LW_law_163 : decode code 163 = .ok (.iload_n 3, 1) := by decide +kernel
theorem d_LW_law_164 : decode code 164 = .ok (.iconst 2, 1) := by decide +kernel
theorem d_LW_law_165 : decode code 165 = .ok (.iadd, 1) := by decide +kernel
theorem d_LW_law_166 : decode code 166 = .ok (.iaload, 1) := by decide +kernel
theorem d_LW_law_167 : decode code 167 = .ok (.aload_n 0, 1) := by decide +kernel
theorem d_LW_law_168 : decode code 168 = .ok (.iload_n 3, 1) := by decide +kernel
theorem d_LW_law_169 : decode code 169 = .ok (.iconst 3, 1) := by decide +kernel
theorem d_LW_law_170 : decode code 170 = .ok (.iadd, 1) := by decide +kernel
theorem d_LW_law_171 : decode code 171 = .ok (.iaload, 1) := by decide +kernel
theorem d_LW_law_172 : decode code 172 = .ok (.aload_n 0, 1) := by decide +kernel
theorem d_LW_law_173 : decode code 173 = .ok (.iload_n 3, 1) := by decide +kernel
