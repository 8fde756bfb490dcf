theorem d_MO_slot_116 : decode b_MO_slot 116 = .ok (.bipush 8, 2) := by decide +kernel
theorem d_MO_slot_118 : decode b_MO_slot 118 = .ok (.iadd, 1) := by decide +kernel
theorem d_MO_slot_119 : decode b_MO_slot 119 = .ok (.iconst 4, 1) := by decide +kernel
theorem d_MO_slot_120 : decode b_MO_slot 120 = .ok (.invokevirtual 68, 3) := by decide +kernel
theorem d_MO_slot_123 : decode b_MO_slot 123 = .ok (.l2i, 1) := by decide +kernel
theorem d_MO_slot_124 : decode b_MO_slot 124 = .ok (.goto 12, 3) := by decide +kernel
theorem d_MO_slot_127 : decode b_MO_slot 127 = .ok (.aload_n 0, 1) := by decide +kernel
theorem d_MO_slot_128 : decode b_MO_slot 128 = .ok (.getfield 7, 3) := by decide +kernel
theorem d_MO_slot_131 : decode b_MO_slot 131 = .ok (.iload_n 3, 1) := by decide +kernel
theorem d_MO_slot_132 : decode b_MO_slot 132 = .ok (.bipush 12, 2) := by decide +kernel
theorem d_MO_slot_134 : decode b_MO_slot 134 = .ok (.iadd, 1) := by decide +kernel
theorem d_MO_slot_135 : decode b_MO_slot 135 = .ok (.iaload, 1) := by decide +kernel
theorem d_MO_slot_136 : decode b_MO_slot 136 = .ok (.ireturn, 1) := by decide +kernel
theorem d_MO_record_0 : decode b_MO_record 0 = .ok (.iload_n 1, 1) := by decide +kernel
theorem d_MO_record_1 : decode b_MO_record 1 = .ok (.i2l, 1) := by decide +kernel
theorem d_MO_record_2 : decode b_MO_record 2 = .ok (.lconst 0, 1) := by decide +kernel
theorem d_MO_record_3 : decode b_MO_record 3 = .ok (.ldc2_w 187, 3) := by decide +kernel
theorem d_MO_record_6 : decode b_MO_record 6 = .ok (.invokestatic 76, 3) := by decide +kernel
theorem d_MO_record_9 : decode b_MO_record 9 = .ok (.ifCond .ne 6, 3) := by decide +kernel
theorem d_MO_record_12 : decode b_MO_record 12 = .ok (.bipush (-102), 2) := by decide +kernel
theorem d_MO_record_14 : decode b_MO_record 14 = .ok (.ireturn, 1) := by decide +kernel
theorem d_MO_record_15 : decode b_MO_record 15 = .ok (.aload_n 0, 1) := by decide +kernel
theorem d_MO_record_16 : decode b_MO_record 16 = .ok (.invokevirtual 80, 3) := by decide +kernel
theorem d_MO_record_19 : decode b_MO_record 19 = .ok (.istore_n 2, 1) := by decide +kernel
theorem d_MO_record_20 : decode b_MO_record 20 = .ok (.iload_n 2, 1) := by decide +kernel
theorem d_MO_record_21 : decode b_MO_record 21 = .ok (.iconst (-1), 1) := by decide +kernel
theorem d_MO_record_22 : decode b_MO_record 22 = .ok (.if_icmp .ne 5, 3) := by decide +kernel
theorem d_MO_record_25 : decode b_MO_record 25 = .ok (.iconst (-1), 1) := by decide +kernel
theorem d_MO_record_26 : decode b_MO_record 26 = .ok (.ireturn, 1) := by decide +kernel
theorem d_MO_record_27 : decode b_MO_record 27 = .ok (.iload_n 1, 1) := by decide +kernel
theorem d_MO_record_28 : decode b_MO_record 28 = .ok (.tableswitch 132 0 6 #[44, 56, 65, 92, 102, 112, 127], 44) := by decide +kernel
theorem d_MO_record_72 : decode b_MO_record 72 = .ok (.aload_n 0, 1) := by decide +kernel
theorem d_MO_record_73 : decode b_MO_record 73 = .ok (.aload_n 0, 1) := by decide +kernel
theorem d_MO_record_74 : decode b_MO_record 74 = .ok (.getfield 7, 3) := by decide +kernel
theorem d_MO_record_77 : decode b_MO_record 77 = .ok (.iload_n 2, 1) := by decide +kernel
theorem d_MO_record_78 : decode b_MO_record 78 = .ok (.iconst 4, 1) := by decide +kernel
theorem d_MO_record_79 : decode b_MO_record 79 = .ok (.invokevirtual 68, 3) := by decide +kernel
theorem d_MO_record_82 : decode b_MO_record 82 = .ok (.l2i, 1) := by decide +kernel
theorem d_MO_record_83 : decode b_MO_record 83 = .ok (.ireturn, 1) := by decide +kernel
theorem d_MO_record_84 : decode b_MO_record 84 = .ok (.aload_n 0, 1) := by decide +kernel
theorem d_MO_record_85 : decode b_MO_record 85 = .ok (.getfield 7, 3) := by decide +kernel
theorem d_MO_record_88 : decode b_MO_record 88 = .ok (.iload_n 2, 1) := by decide +kernel
theorem d_MO_record_89 : decode b_MO_record 89 = .ok (.iconst 4, 1) := by decide +kernel
theorem d_MO_record_90 : decode b_MO_record 90 = .ok (.iadd, 1) := by decide +kernel
theorem d_MO_record_91 : decode b_MO_record 91 = .ok (.iaload, 1) := by decide +kernel
theorem d_MO_record_92 : decode b_MO_record 92 = .ok (.ireturn, 1) := by decide +kernel
theorem d_MO_record_93 : decode b_MO_record 93 = .ok (.aload_n 0, 1) := by decide +kernel
theorem d_MO_record_94 : decode b_MO_record 94 = .ok (.getfield 7, 3) := by decide +kernel
theorem d_MO_record_97 : decode b_MO_record 97 = .ok (.iload_n 2, 1) := by decide +kernel
theorem d_MO_record_98 : decode b_MO_record 98 = .ok (.iconst 5, 1) := by decide +kernel
theorem d_MO_record_99 : decode b_MO_record 99 = .ok (.iadd, 1) := by decide +kernel
theorem d_MO_record_100 : decode b_MO_record 100 = .ok (.iaload, 1) := by decide +kernel
theorem d_MO_record_101 : decode b_MO_record 101 = .ok (.sipush 255, 3) := by decide +kernel
theorem d_MO_record_104 : decode b_MO_record 104 = .ok (.if_icmp .ne 7, 3) := by decide +kernel
theorem d_MO_record_107 : decode b_MO_record 107 = .ok (.iconst (-1), 1) := by decide +kernel
theorem d_MO_record_108 : decode b_MO_record 108 = .ok (.goto 11, 3) := by decide +kernel
theorem d_MO_record_111 : decode b_MO_record 111 = .ok (.aload_n 0, 1) := by decide +kernel
theorem d_MO_record_112 : decode b_MO_record 112 = .ok (.getfield 7, 3) := by decide +kernel
theorem d_MO_record_115 : decode b_MO_record 115 = .ok (.iload_n 2, 1) := by decide +kernel
theorem d_MO_record_116 : decode b_MO_record 116 = .ok (.iconst 5, 1) := by decide +kernel
theorem d_MO_record_117 : decode b_MO_record 117 = .ok (.iadd, 1) := by decide +kernel
theorem d_MO_record_118 : decode b_MO_record 118 = .ok (.iaload, 1) := by decide +kernel
theorem d_MO_record_119 : decode b_MO_record 119 = .ok (.ireturn, 1) := by decide +kernel
theorem d_MO_record_120 : decode b_MO_record 120 = .ok (.aload_n 0, 1) := by decide +kernel
theorem d_MO_record_121 : decode b_MO_record 121 = .ok (.getfield 7, 3) := by decide +kernel
theorem d_MO_record_124 : decode b_MO_record 124 = .ok (.iload_n 2, 1) := by decide +kernel
theorem d_MO_record_125 : decode b_MO_record 125 = .ok (.bipush 6, 2) := by decide +kernel
theorem d_MO_record_127 : decode b_MO_record 127 = .ok (.iadd, 1) := by decide +kernel
theorem d_MO_record_128 : decode b_MO_record 128 = .ok (.iaload, 1) := by decide +kernel
theorem d_MO_record_129 : decode b_MO_record 129 = .ok (.ireturn, 1) := by decide +kernel
theorem d_MO_record_130 : decode b_MO_record 130 = .ok (.aload_n 0, 1) := by decide +kernel
theorem d_MO_record_131 : decode b_MO_record 131 = .ok (.getfield 7, 3) := by decide +kernel
theorem d_MO_record_134 : decode b_MO_record 134 = .ok (.iload_n 2, 1) := by decide +kernel
theorem d_MO_record_135 : decode b_MO_record 135 = .ok (.bipush 7, 2) := by decide +kernel
theorem d_MO_record_137 : decode b_MO_record 137 = .ok (.iadd, 1) := by decide +kernel
theorem d_MO_record_138 : decode b_MO_record 138 = .ok (.iaload, 1) := by decide +kernel
theorem d_MO_record_139 : decode b_MO_record 139 = .ok (.ireturn, 1) := by decide +kernel
theorem d_MO_record_140 : decode b_MO_record 140 = .ok (.aload_n 0, 1) := by decide +kernel
theorem d_MO_record_141 : decode b_MO_record 141 = .ok (.aload_n 0, 1) := by decide +kernel
theorem d_MO_record_142 : decode b_MO_record 142 = .ok (.getfield 7, 3) := by decide +kernel
theorem d_MO_record_145 : decode b_MO_record 145 = .ok (.iload_n 2, 1) := by decide +kernel
theorem d_MO_record_146 : decode b_MO_record 146 = .ok (.bipush 8, 2) := by decide +kernel
theorem d_MO_record_148 : decode b_MO_record 148 = .ok (.iadd, 1) := by decide +kernel
theorem d_MO_record_149 : decode b_MO_record 149 = .ok (.iconst 4, 1) := by decide +kernel
theorem d_MO_record_150 : decode b_MO_record 150 = .ok (.invokevirtual 68, 3) := by decide +kernel
theorem d_MO_record_153 : decode b_MO_record 153 = .ok (.l2i, 1) := by decide +kernel
theorem d_MO_record_154 : decode b_MO_record 154 = .ok (.ireturn, 1) := by decide +kernel
theorem d_MO_record_155 : decode b_MO_record 155 = .ok (.iload_n 2, 1) := by decide +kernel
theorem d_MO_record_156 : decode b_MO_record 156 = .ok (.bipush 64, 2) := by decide +kernel
theorem d_MO_record_158 : decode b_MO_record 158 = .ok (.idiv, 1) := by decide +kernel
theorem d_MO_record_159 : decode b_MO_record 159 = .ok (.ireturn, 1) := by decide +kernel
theorem d_MO_record_160 : decode b_MO_record 160 = .ok (.iload_n 2, 1) := by decide +kernel
theorem d_MO_record_161 : decode b_MO_record 161 = .ok (.bipush 64, 2) := by decide +kernel
theorem d_MO_record_163 : decode b_MO_record 163 = .ok (.irem, 1) := by decide +kernel
theorem d_MO_record_164 : decode b_MO_record 164 = .ok (.bipush 16, 2) := by decide +kernel
theorem d_MO_record_166 : decode b_MO_record 166 = .ok (.idiv, 1) := by decide +kernel
theorem d_MO_record_167 : decode b_MO_record 167 = .ok (.ireturn, 1) := by decide +kernel
theorem d_MO_count_0 : decode b_MO_count 0 = .ok (.iload_n 1, 1) := by decide +kernel
theorem d_MO_count_1 : decode b_MO_count 1 = .ok (.i2l, 1) := by decide +kernel
theorem d_MO_count_2 : decode b_MO_count 2 = .ok (.lconst 0, 1) := by decide +kernel
theorem d_MO_count_3 : decode b_MO_count 3 = .ok (.ldc2_w 189, 3) := by decide +kernel
theorem d_MO_count_6 : decode b_MO_count 6 = .ok (.invokestatic 76, 3) := by decide +kernel
theorem d_MO_count_9 : decode b_MO_count 9 = .ok (.ifCond .eq 12, 3) := by decide +kernel
theorem d_MO_count_12 : decode b_MO_count 12 = .ok (.aload_n 0, 1) := by decide +kernel
theorem d_MO_count_13 : decode b_MO_count 13 = .ok (.getfield 29, 3) := by decide +kernel
theorem d_MO_count_16 : decode b_MO_count 16 = .ok (.iload_n 1, 1) := by decide +kernel
theorem d_MO_count_17 : decode b_MO_count 17 = .ok (.iaload, 1) := by decide +kernel
theorem d_MO_count_18 : decode b_MO_count 18 = .ok (.goto 31, 3) := by decide +kernel
theorem d_MO_count_21 : decode b_MO_count 21 = .ok (.iload_n 1, 1) := by decide +kernel
theorem d_MO_count_22 : decode b_MO_count 22 = .ok (.bipush 7, 2) := by decide +kernel
theorem d_MO_count_24 : decode b_MO_count 24 = .ok (.if_icmp .ne 10, 3) := by decide +kernel
theorem d_MO_count_27 : decode b_MO_count 27 = .ok (.aload_n 0, 1) := by decide +kernel
theorem d_MO_count_28 : decode b_MO_count 28 = .ok (.getfield 107, 3) := by decide +kernel
theorem d_MO_count_31 : decode b_MO_count 31 = .ok (.goto 18, 3) := by decide +kernel
theorem d_MO_count_34 : decode b_MO_count 34 = .ok (.iload_n 1, 1) := by decide +kernel
theorem d_MO_count_35 : decode b_MO_count 35 = .ok (.bipush 8, 2) := by decide +kernel
theorem d_MO_count_37 : decode b_MO_count 37 = .ok (.if_icmp .ne 10, 3) := by decide +kernel
theorem d_MO_count_40 : decode b_MO_count 40 = .ok (.aload_n 0, 1) := by decide +kernel
theorem d_MO_count_41 : decode b_MO_count 41 = .ok (.invokevirtual 162, 3) := by decide +kernel
theorem d_MO_count_44 : decode b_MO_count 44 = .ok (.goto 5, 3) := by decide +kernel
theorem d_MO_count_47 : decode b_MO_count 47 = .ok (.bipush (-102), 2) := by decide +kernel
theorem d_MO_count_49 : decode b_MO_count 49 = .ok (.ireturn, 1) := by decide +kernel
