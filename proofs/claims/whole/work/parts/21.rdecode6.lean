theorem d_MO_record_149 : decode b_MO_record 149 = .ok (.iconst 4, 1) := by decide +kernel
theorem d_MO_record_150 : decode b_MO_record 150 = .ok (.invokevirtual 68, 3) := by decide +kernel
theorem d_MO_record_153 : decode b_MO_record 153 = .ok (.l2i, 1) := by decide +kernel
theorem d_MO_record_154 : decode b_MO_record 154 = .ok (.ireturn, 1) := by decide +kernel
theorem d_MO_record_155 : decode b_MO_record 155 = .ok (.iload_n 2, 1) := by decide +kernel
theorem d_MO_record_156 : decode b_MO_record 156 = .ok (.bipush 64, 2) := by decide +kernel
theorem d_MO_record_158 : decode b_MO_record 158 = .ok (.idiv, 1) := by decide +kernel
theorem d_MO_record_159 : decode b_MO_record 159 = .ok (.ireturn, 1) := by decide +kernel
theorem d_MO_record_160 : decode b_MO_record 160 = .ok (.iload_n 2, 1) := by decide +kernel
theorem d_MO_record_161 : decode b_MO_record 161 = .ok (.bipush 64, 2) := by decide +kernel
theorem d_MO_record_163 : decode b_MO_record 163 = .ok (.irem, 1) := by decide +kernel
theorem d_MO_record_164 : decode b_MO_record 164 = .ok (.bipush 16, 2) := by decide +kernel
theorem d_MO_record_166 : decode b_MO_record 166 = .ok (.idiv, 1) := by decide +kernel
theorem d_MO_record_167 : decode b_MO_record 167 = .ok (.ireturn, 1) := by decide +kernel
theorem d_MO_count_0 : decode b_MO_count 0 = .ok (.iload_n 1, 1) := by decide +kernel
theorem d_MO_count_1 : decode b_MO_count 1 = .ok (.i2l, 1) := by decide +kernel
theorem d_MO_count_2 : decode b_MO_count 2 = .ok (.lconst 0, 1) := by decide +kernel
theorem d_MO_count_3 : decode b_MO_count 3 = .ok (.ldc2_w 189, 3) := by decide +kernel
theorem d_MO_count_6 : decode b_MO_count 6 = .ok (.invokestatic 76, 3) := by decide +kernel
theorem d_MO_count_9 : decode b_MO_count 9 = .ok (.ifCond .eq 12, 3) := by decide +kernel
theorem d_MO_count_12 : decode b_MO_count 12 = .ok (.aload_n 0, 1) := by decide +kernel
theorem d_MO_count_13 : decode b_MO_count 13 = .ok (.getfield 29, 3) := by decide +kernel
theorem d_MO_count_16 : decode b_MO_count 16 = .ok (.iload_n 1, 1) := by decide +kernel
theorem d_MO_count_17 : decode b_MO_count 17 = .ok (.iaload, 1) := by decide +kernel
theorem d_MO_count_18 : decode b_MO_count 18 = .ok (.goto 31, 3) := by decide +kernel
theorem d_MO_count_21 : decode b_MO_count 21 = .ok (.iload_n 1, 1) := by decide +kernel
theorem d_MO_count_22 : decode b_MO_count 22 = .ok (.bipush 7, 2) := by decide +kernel
theorem d_MO_count_24 : decode b_MO_count 24 = .ok (.if_icmp .ne 10, 3) := by decide +kernel
theorem d_MO_count_27 : decode b_MO_count 27 = .ok (.aload_n 0, 1) := by decide +kernel
theorem d_MO_count_28 : decode b_MO_count 28 = .ok (.getfield 107, 3) := by decide +kernel
theorem d_MO_count_31 : decode b_MO_count 31 = .ok (.goto 18, 3) := by decide +kernel
theorem d_MO_count_34 : decode b_MO_count 34 = .ok (.iload_n 1, 1) := by decide +kernel
theorem d_MO_count_35 : decode b_MO_count 35 = .ok (.bipush 8, 2) := by decide +kernel
theorem d_MO_count_37 : decode b_MO_count 37 = .ok (.if_icmp .ne 10, 3) := by decide +kernel
theorem d_MO_count_40 : decode b_MO_count 40 = .ok (.aload_n 0, 1) := by decide +kernel
theorem d_MO_count_41 : decode b_MO_count 41 = .ok (.invokevirtual 162, 3) := by decide +kernel
theorem d_MO_count_44 : decode b_MO_count 44 = .ok (.goto 5, 3) := by decide +kernel
theorem d_MO_count_47 : decode b_MO_count 47 = .ok (.bipush (-102), 2) := by decide +kernel
theorem d_MO_count_49 : decode b_MO_count 49 = .ok (.ireturn, 1) := by decide +kernel
