theorem d_TS_offer_144 : decode b_TS_offer 144 = .ok (.invokestatic 113, 3) := by decide +kernel
theorem d_TS_offer_147 : decode b_TS_offer 147 = .ok (.aload_n 0, 1) := by decide +kernel
theorem d_TS_offer_148 : decode b_TS_offer 148 = .ok (.iload_n 2, 1) := by decide +kernel
theorem d_TS_offer_149 : decode b_TS_offer 149 = .ok (.putfield 50, 3) := by decide +kernel
theorem d_TS_offer_152 : decode b_TS_offer 152 = .ok (.aload_n 0, 1) := by decide +kernel
theorem d_TS_offer_153 : decode b_TS_offer 153 = .ok (.aload_n 0, 1) := by decide +kernel
theorem d_TS_offer_154 : decode b_TS_offer 154 = .ok (.getfield 47, 3) := by decide +kernel
theorem d_TS_offer_157 : decode b_TS_offer 157 = .ok (.invokevirtual 176, 3) := by decide +kernel
theorem d_TS_offer_160 : decode b_TS_offer 160 = .ok (.putfield 53, 3) := by decide +kernel
theorem d_TS_offer_163 : decode b_TS_offer 163 = .ok (.iload_n 2, 1) := by decide +kernel
theorem d_TS_offer_164 : decode b_TS_offer 164 = .ok (.ireturn, 1) := by decide +kernel
theorem d_TS_block_0 : decode b_TS_block 0 = .ok (.aload_n 0, 1) := by decide +kernel
theorem d_TS_block_1 : decode b_TS_block 1 = .ok (.getfield 10, 3) := by decide +kernel
theorem d_TS_block_4 : decode b_TS_block 4 = .ok (.getfield 143, 3) := by decide +kernel
theorem d_TS_block_7 : decode b_TS_block 7 = .ok (.ifCond .eq 6, 3) := by decide +kernel
theorem d_TS_block_10 : decode b_TS_block 10 = .ok (.bipush (-100), 2) := by decide +kernel
theorem d_TS_block_12 : decode b_TS_block 12 = .ok (.ireturn, 1) := by decide +kernel
theorem d_TS_block_13 : decode b_TS_block 13 = .ok (.aload_n 0, 1) := by decide +kernel
theorem d_TS_block_14 : decode b_TS_block 14 = .ok (.getfield 50, 3) := by decide +kernel
theorem d_TS_block_17 : decode b_TS_block 17 = .ok (.iconst (-1), 1) := by decide +kernel
theorem d_TS_block_18 : decode b_TS_block 18 = .ok (.if_icmp .eq 10, 3) := by decide +kernel
theorem d_TS_block_21 : decode b_TS_block 21 = .ok (.aload_n 0, 1) := by decide +kernel
theorem d_TS_block_22 : decode b_TS_block 22 = .ok (.getfield 53, 3) := by decide +kernel
theorem d_TS_block_25 : decode b_TS_block 25 = .ok (.ifCond .ne 6, 3) := by decide +kernel
theorem d_TS_block_28 : decode b_TS_block 28 = .ok (.bipush (-103), 2) := by decide +kernel
theorem d_TS_block_30 : decode b_TS_block 30 = .ok (.ireturn, 1) := by decide +kernel
theorem d_TS_block_31 : decode b_TS_block 31 = .ok (.aload_n 0, 1) := by decide +kernel
theorem d_TS_block_32 : decode b_TS_block 32 = .ok (.getfield 36, 3) := by decide +kernel
theorem d_TS_block_35 : decode b_TS_block 35 = .ok (.bipush 64, 2) := by decide +kernel
theorem d_TS_block_37 : decode b_TS_block 37 = .ok (.if_icmp .eq 6, 3) := by decide +kernel
theorem d_TS_block_40 : decode b_TS_block 40 = .ok (.bipush (-105), 2) := by decide +kernel
theorem d_TS_block_42 : decode b_TS_block 42 = .ok (.ireturn, 1) := by decide +kernel
theorem d_TS_block_43 : decode b_TS_block 43 = .ok (.aload_n 0, 1) := by decide +kernel
theorem d_TS_block_44 : decode b_TS_block 44 = .ok (.iconst 0, 1) := by decide +kernel
theorem d_TS_block_45 : decode b_TS_block 45 = .ok (.putfield 36, 3) := by decide +kernel
theorem d_TS_block_48 : decode b_TS_block 48 = .ok (.aload_n 0, 1) := by decide +kernel
theorem d_TS_block_49 : decode b_TS_block 49 = .ok (.getfield 50, 3) := by decide +kernel
theorem d_TS_block_52 : decode b_TS_block 52 = .ok (.invokestatic 110, 3) := by decide +kernel
theorem d_TS_block_55 : decode b_TS_block 55 = .ok (.iconst 1, 1) := by decide +kernel
theorem d_TS_block_56 : decode b_TS_block 56 = .ok (.iadd, 1) := by decide +kernel
theorem d_TS_block_57 : decode b_TS_block 57 = .ok (.aload_n 0, 1) := by decide +kernel
theorem d_TS_block_58 : decode b_TS_block 58 = .ok (.getfield 47, 3) := by decide +kernel
theorem d_TS_block_61 : decode b_TS_block 61 = .ok (.invokevirtual 176, 3) := by decide +kernel
theorem d_TS_block_64 : decode b_TS_block 64 = .ok (.iadd, 1) := by decide +kernel
theorem d_TS_block_65 : decode b_TS_block 65 = .ok (.aload_n 0, 1) := by decide +kernel
theorem d_TS_block_66 : decode b_TS_block 66 = .ok (.getfield 53, 3) := by decide +kernel
theorem d_TS_block_69 : decode b_TS_block 69 = .ok (.isub, 1) := by decide +kernel
theorem d_TS_block_70 : decode b_TS_block 70 = .ok (.istore_n 1, 1) := by decide +kernel
theorem d_TS_block_71 : decode b_TS_block 71 = .ok (.aload_n 0, 1) := by decide +kernel
theorem d_TS_block_72 : decode b_TS_block 72 = .ok (.getfield 10, 3) := by decide +kernel
theorem d_TS_block_75 : decode b_TS_block 75 = .ok (.iload_n 1, 1) := by decide +kernel
theorem d_TS_block_76 : decode b_TS_block 76 = .ok (.invokevirtual 170, 3) := by decide +kernel
theorem d_TS_block_79 : decode b_TS_block 79 = .ok (.ifCond .eq 18, 3) := by decide +kernel
theorem d_TS_block_82 : decode b_TS_block 82 = .ok (.aload_n 0, 1) := by decide +kernel
theorem d_TS_block_83 : decode b_TS_block 83 = .ok (.getfield 10, 3) := by decide +kernel
theorem d_TS_block_86 : decode b_TS_block 86 = .ok (.iload_n 1, 1) := by decide +kernel
theorem d_TS_block_87 : decode b_TS_block 87 = .ok (.aload_n 0, 1) := by decide +kernel
theorem d_TS_block_88 : decode b_TS_block 88 = .ok (.getfield 32, 3) := by decide +kernel
theorem d_TS_block_91 : decode b_TS_block 91 = .ok (.invokevirtual 178, 3) := by decide +kernel
theorem d_TS_block_94 : decode b_TS_block 94 = .ok (.ifCond .ne 8, 3) := by decide +kernel
theorem d_TS_block_97 : decode b_TS_block 97 = .ok (.aload_n 0, 1) := by decide +kernel
theorem d_TS_block_98 : decode b_TS_block 98 = .ok (.invokevirtual 173, 3) := by decide +kernel
theorem d_TS_block_101 : decode b_TS_block 101 = .ok (.ireturn, 1) := by decide +kernel
theorem d_TS_block_102 : decode b_TS_block 102 = .ok (.aload_n 0, 1) := by decide +kernel
theorem d_TS_block_103 : decode b_TS_block 103 = .ok (.dup, 1) := by decide +kernel
theorem d_TS_block_104 : decode b_TS_block 104 = .ok (.getfield 53, 3) := by decide +kernel
theorem d_TS_block_107 : decode b_TS_block 107 = .ok (.iconst 1, 1) := by decide +kernel
theorem d_TS_block_108 : decode b_TS_block 108 = .ok (.isub, 1) := by decide +kernel
theorem d_TS_block_109 : decode b_TS_block 109 = .ok (.putfield 53, 3) := by decide +kernel
theorem d_TS_block_112 : decode b_TS_block 112 = .ok (.aload_n 0, 1) := by decide +kernel
theorem d_TS_block_113 : decode b_TS_block 113 = .ok (.getfield 53, 3) := by decide +kernel
theorem d_TS_block_116 : decode b_TS_block 116 = .ok (.ireturn, 1) := by decide +kernel
theorem d_TS_finish_0 : decode b_TS_finish 0 = .ok (.aload_n 0, 1) := by decide +kernel
theorem d_TS_finish_1 : decode b_TS_finish 1 = .ok (.getfield 10, 3) := by decide +kernel
theorem d_TS_finish_4 : decode b_TS_finish 4 = .ok (.getfield 143, 3) := by decide +kernel
theorem d_TS_finish_7 : decode b_TS_finish 7 = .ok (.ifCond .eq 6, 3) := by decide +kernel
theorem d_TS_finish_10 : decode b_TS_finish 10 = .ok (.bipush (-100), 2) := by decide +kernel
theorem d_TS_finish_12 : decode b_TS_finish 12 = .ok (.ireturn, 1) := by decide +kernel
theorem d_TS_finish_13 : decode b_TS_finish 13 = .ok (.aload_n 0, 1) := by decide +kernel
theorem d_TS_finish_14 : decode b_TS_finish 14 = .ok (.getfield 50, 3) := by decide +kernel
theorem d_TS_finish_17 : decode b_TS_finish 17 = .ok (.iconst (-1), 1) := by decide +kernel
theorem d_TS_finish_18 : decode b_TS_finish 18 = .ok (.if_icmp .eq 21, 3) := by decide +kernel
theorem d_TS_finish_21 : decode b_TS_finish 21 = .ok (.aload_n 0, 1) := by decide +kernel
theorem d_TS_finish_22 : decode b_TS_finish 22 = .ok (.getfield 53, 3) := by decide +kernel
theorem d_TS_finish_25 : decode b_TS_finish 25 = .ok (.ifCond .gt 14, 3) := by decide +kernel
theorem d_TS_finish_28 : decode b_TS_finish 28 = .ok (.aload_n 0, 1) := by decide +kernel
theorem d_TS_finish_29 : decode b_TS_finish 29 = .ok (.getfield 21, 3) := by decide +kernel
theorem d_TS_finish_32 : decode b_TS_finish 32 = .ok (.getfield 151, 3) := by decide +kernel
theorem d_TS_finish_35 : decode b_TS_finish 35 = .ok (.iconst (-1), 1) := by decide +kernel
theorem d_TS_finish_36 : decode b_TS_finish 36 = .ok (.if_icmp .ne 6, 3) := by decide +kernel
theorem d_TS_finish_39 : decode b_TS_finish 39 = .ok (.bipush (-103), 2) := by decide +kernel
theorem d_TS_finish_41 : decode b_TS_finish 41 = .ok (.ireturn, 1) := by decide +kernel
theorem d_TS_finish_42 : decode b_TS_finish 42 = .ok (.aload_n 0, 1) := by decide +kernel
theorem d_TS_finish_43 : decode b_TS_finish 43 = .ok (.getfield 50, 3) := by decide +kernel
theorem d_TS_finish_46 : decode b_TS_finish 46 = .ok (.istore_n 1, 1) := by decide +kernel
theorem d_TS_finish_47 : decode b_TS_finish 47 = .ok (.aload_n 0, 1) := by decide +kernel
theorem d_TS_finish_48 : decode b_TS_finish 48 = .ok (.iload_n 1, 1) := by decide +kernel
theorem d_TS_finish_49 : decode b_TS_finish 49 = .ok (.aload_n 0, 1) := by decide +kernel
theorem d_TS_finish_50 : decode b_TS_finish 50 = .ok (.getfield 47, 3) := by decide +kernel
theorem d_TS_finish_53 : decode b_TS_finish 53 = .ok (.invokevirtual 157, 3) := by decide +kernel
theorem d_TS_finish_56 : decode b_TS_finish 56 = .ok (.aload_n 0, 1) := by decide +kernel
theorem d_TS_finish_57 : decode b_TS_finish 57 = .ok (.getfield 47, 3) := by decide +kernel
theorem d_TS_finish_60 : decode b_TS_finish 60 = .ok (.invokevirtual 176, 3) := by decide +kernel
theorem d_TS_finish_63 : decode b_TS_finish 63 = .ok (.invokevirtual 95, 3) := by decide +kernel
theorem d_TS_finish_66 : decode b_TS_finish 66 = .ok (.aload_n 0, 1) := by decide +kernel
theorem d_TS_finish_67 : decode b_TS_finish 67 = .ok (.getfield 47, 3) := by decide +kernel
theorem d_TS_finish_70 : decode b_TS_finish 70 = .ok (.invokevirtual 182, 3) := by decide +kernel
theorem d_TS_finish_73 : decode b_TS_finish 73 = .ok (.lcmp, 1) := by decide +kernel
theorem d_TS_finish_74 : decode b_TS_finish 74 = .ok (.ifCond .eq 10, 3) := by decide +kernel
theorem d_TS_finish_77 : decode b_TS_finish 77 = .ok (.aload_n 0, 1) := by decide +kernel
theorem d_TS_finish_78 : decode b_TS_finish 78 = .ok (.invokevirtual 185, 3) := by decide +kernel
theorem d_TS_finish_81 : decode b_TS_finish 81 = .ok (.bipush (-105), 2) := by decide +kernel
theorem d_TS_finish_83 : decode b_TS_finish 83 = .ok (.ireturn, 1) := by decide +kernel
theorem d_TS_finish_84 : decode b_TS_finish 84 = .ok (.aload_n 0, 1) := by decide +kernel
theorem d_TS_finish_85 : decode b_TS_finish 85 = .ok (.getfield 10, 3) := by decide +kernel
theorem d_TS_finish_88 : decode b_TS_finish 88 = .ok (.iload_n 1, 1) := by decide +kernel
theorem d_TS_finish_89 : decode b_TS_finish 89 = .ok (.invokestatic 110, 3) := by decide +kernel
theorem d_TS_finish_92 : decode b_TS_finish 92 = .ok (.aload_n 0, 1) := by decide +kernel
theorem d_TS_finish_93 : decode b_TS_finish 93 = .ok (.getfield 47, 3) := by decide +kernel
theorem d_TS_finish_96 : decode b_TS_finish 96 = .ok (.getfield 107, 3) := by decide +kernel
theorem d_TS_finish_99 : decode b_TS_finish 99 = .ok (.invokevirtual 178, 3) := by decide +kernel
theorem d_TS_finish_102 : decode b_TS_finish 102 = .ok (.ifCond .eq 15, 3) := by decide +kernel
theorem d_TS_finish_105 : decode b_TS_finish 105 = .ok (.aload_n 0, 1) := by decide +kernel
theorem d_TS_finish_106 : decode b_TS_finish 106 = .ok (.getfield 21, 3) := by decide +kernel
theorem d_TS_finish_109 : decode b_TS_finish 109 = .ok (.iload_n 1, 1) := by decide +kernel
theorem d_TS_finish_110 : decode b_TS_finish 110 = .ok (.iconst 3, 1) := by decide +kernel
theorem d_TS_finish_111 : decode b_TS_finish 111 = .ok (.invokevirtual 188, 3) := by decide +kernel
theorem d_TS_finish_114 : decode b_TS_finish 114 = .ok (.ifCond .ne 8, 3) := by decide +kernel
theorem d_TS_finish_117 : decode b_TS_finish 117 = .ok (.aload_n 0, 1) := by decide +kernel
theorem d_TS_finish_118 : decode b_TS_finish 118 = .ok (.invokevirtual 173, 3) := by decide +kernel
theorem d_TS_finish_121 : decode b_TS_finish 121 = .ok (.ireturn, 1) := by decide +kernel
theorem d_TS_finish_122 : decode b_TS_finish 122 = .ok (.aload_n 0, 1) := by decide +kernel
theorem d_TS_finish_123 : decode b_TS_finish 123 = .ok (.invokevirtual 185, 3) := by decide +kernel
theorem d_TS_finish_126 : decode b_TS_finish 126 = .ok (.aload_n 0, 1) := by decide +kernel
theorem d_TS_finish_127 : decode b_TS_finish 127 = .ok (.dup, 1) := by decide +kernel
theorem d_TS_finish_128 : decode b_TS_finish 128 = .ok (.getfield 71, 3) := by decide +kernel
theorem d_TS_finish_131 : decode b_TS_finish 131 = .ok (.iconst 1, 1) := by decide +kernel
theorem d_TS_finish_132 : decode b_TS_finish 132 = .ok (.iadd, 1) := by decide +kernel
theorem d_TS_finish_133 : decode b_TS_finish 133 = .ok (.putfield 71, 3) := by decide +kernel
theorem d_TS_finish_136 : decode b_TS_finish 136 = .ok (.iload_n 1, 1) := by decide +kernel
theorem d_TS_finish_137 : decode b_TS_finish 137 = .ok (.ireturn, 1) := by decide +kernel
theorem d_TS_boot_0 : decode b_TS_boot 0 = .ok (.aload_n 0, 1) := by decide +kernel
theorem d_TS_boot_1 : decode b_TS_boot 1 = .ok (.getfield 10, 3) := by decide +kernel
theorem d_TS_boot_4 : decode b_TS_boot 4 = .ok (.getfield 143, 3) := by decide +kernel
theorem d_TS_boot_7 : decode b_TS_boot 7 = .ok (.ifCond .eq 6, 3) := by decide +kernel
theorem d_TS_boot_10 : decode b_TS_boot 10 = .ok (.bipush (-100), 2) := by decide +kernel
theorem d_TS_boot_12 : decode b_TS_boot 12 = .ok (.ireturn, 1) := by decide +kernel
theorem d_TS_boot_13 : decode b_TS_boot 13 = .ok (.aload_n 0, 1) := by decide +kernel
theorem d_TS_boot_14 : decode b_TS_boot 14 = .ok (.invokevirtual 192, 3) := by decide +kernel
theorem d_TS_boot_17 : decode b_TS_boot 17 = .ok (.ireturn, 1) := by decide +kernel
theorem d_TS_confirm_0 : decode b_TS_confirm 0 = .ok (.aload_n 0, 1) := by decide +kernel
theorem d_TS_confirm_1 : decode b_TS_confirm 1 = .ok (.getfield 10, 3) := by decide +kernel
theorem d_TS_confirm_4 : decode b_TS_confirm 4 = .ok (.getfield 143, 3) := by decide +kernel
theorem d_TS_confirm_7 : decode b_TS_confirm 7 = .ok (.ifCond .eq 6, 3) := by decide +kernel
theorem d_TS_confirm_10 : decode b_TS_confirm 10 = .ok (.bipush (-100), 2) := by decide +kernel
theorem d_TS_confirm_12 : decode b_TS_confirm 12 = .ok (.ireturn, 1) := by decide +kernel
theorem d_TS_confirm_13 : decode b_TS_confirm 13 = .ok (.aload_n 0, 1) := by decide +kernel
theorem d_TS_confirm_14 : decode b_TS_confirm 14 = .ok (.getfield 59, 3) := by decide +kernel
theorem d_TS_confirm_17 : decode b_TS_confirm 17 = .ok (.ifCond .eq 14, 3) := by decide +kernel
theorem d_TS_confirm_20 : decode b_TS_confirm 20 = .ok (.aload_n 0, 1) := by decide +kernel
theorem d_TS_confirm_21 : decode b_TS_confirm 21 = .ok (.getfield 21, 3) := by decide +kernel
theorem d_TS_confirm_24 : decode b_TS_confirm 24 = .ok (.getfield 151, 3) := by decide +kernel
theorem d_TS_confirm_27 : decode b_TS_confirm 27 = .ok (.iconst (-1), 1) := by decide +kernel
theorem d_TS_confirm_28 : decode b_TS_confirm 28 = .ok (.if_icmp .ne 6, 3) := by decide +kernel
theorem d_TS_confirm_31 : decode b_TS_confirm 31 = .ok (.bipush (-103), 2) := by decide +kernel
theorem d_TS_confirm_33 : decode b_TS_confirm 33 = .ok (.ireturn, 1) := by decide +kernel
theorem d_TS_confirm_34 : decode b_TS_confirm 34 = .ok (.aload_n 0, 1) := by decide +kernel
theorem d_TS_confirm_35 : decode b_TS_confirm 35 = .ok (.aload_n 0, 1) := by decide +kernel
theorem d_TS_confirm_36 : decode b_TS_confirm 36 = .ok (.getfield 56, 3) := by decide +kernel
theorem d_TS_confirm_39 : decode b_TS_confirm 39 = .ok (.invokevirtual 195, 3) := by decide +kernel
theorem d_TS_confirm_42 : decode b_TS_confirm 42 = .ok (.aload_n 0, 1) := by decide +kernel
theorem d_TS_confirm_43 : decode b_TS_confirm 43 = .ok (.getfield 43, 3) := by decide +kernel
theorem d_TS_confirm_46 : decode b_TS_confirm 46 = .ok (.invokevirtual 157, 3) := by decide +kernel
theorem d_TS_confirm_49 : decode b_TS_confirm 49 = .ok (.istore_n 1, 1) := by decide +kernel
theorem d_TS_confirm_50 : decode b_TS_confirm 50 = .ok (.aload_n 0, 1) := by decide +kernel
theorem d_TS_confirm_51 : decode b_TS_confirm 51 = .ok (.iload_n 1, 1) := by decide +kernel
theorem d_TS_confirm_52 : decode b_TS_confirm 52 = .ok (.invokevirtual 160, 3) := by decide +kernel
theorem d_TS_confirm_55 : decode b_TS_confirm 55 = .ok (.ifCond .eq 13, 3) := by decide +kernel
theorem d_TS_confirm_58 : decode b_TS_confirm 58 = .ok (.aload_n 0, 1) := by decide +kernel
theorem d_TS_confirm_59 : decode b_TS_confirm 59 = .ok (.getfield 21, 3) := by decide +kernel
theorem d_TS_confirm_62 : decode b_TS_confirm 62 = .ok (.getfield 198, 3) := by decide +kernel
theorem d_TS_confirm_65 : decode b_TS_confirm 65 = .ok (.goto 4, 3) := by decide +kernel
theorem d_TS_confirm_68 : decode b_TS_confirm 68 = .ok (.iload_n 1, 1) := by decide +kernel
theorem d_TS_confirm_69 : decode b_TS_confirm 69 = .ok (.istore_n 2, 1) := by decide +kernel
theorem d_TS_confirm_70 : decode b_TS_confirm 70 = .ok (.aload_n 0, 1) := by decide +kernel
theorem d_TS_confirm_71 : decode b_TS_confirm 71 = .ok (.getfield 21, 3) := by decide +kernel
theorem d_TS_confirm_74 : decode b_TS_confirm 74 = .ok (.aload_n 0, 1) := by decide +kernel
theorem d_TS_confirm_75 : decode b_TS_confirm 75 = .ok (.getfield 56, 3) := by decide +kernel
theorem d_TS_confirm_78 : decode b_TS_confirm 78 = .ok (.iload_n 2, 1) := by decide +kernel
theorem d_TS_confirm_79 : decode b_TS_confirm 79 = .ok (.invokevirtual 201, 3) := by decide +kernel
theorem d_TS_confirm_82 : decode b_TS_confirm 82 = .ok (.ifCond .ne 8, 3) := by decide +kernel
theorem d_TS_confirm_85 : decode b_TS_confirm 85 = .ok (.aload_n 0, 1) := by decide +kernel
theorem d_TS_confirm_86 : decode b_TS_confirm 86 = .ok (.invokevirtual 173, 3) := by decide +kernel
theorem d_TS_confirm_89 : decode b_TS_confirm 89 = .ok (.ireturn, 1) := by decide +kernel
theorem d_TS_confirm_90 : decode b_TS_confirm 90 = .ok (.aload_n 0, 1) := by decide +kernel
theorem d_TS_confirm_91 : decode b_TS_confirm 91 = .ok (.iconst 0, 1) := by decide +kernel
theorem d_TS_confirm_92 : decode b_TS_confirm 92 = .ok (.putfield 59, 3) := by decide +kernel
theorem d_TS_confirm_95 : decode b_TS_confirm 95 = .ok (.aload_n 0, 1) := by decide +kernel
theorem d_TS_confirm_96 : decode b_TS_confirm 96 = .ok (.getfield 21, 3) := by decide +kernel
theorem d_TS_confirm_99 : decode b_TS_confirm 99 = .ok (.getfield 198, 3) := by decide +kernel
theorem d_TS_confirm_102 : decode b_TS_confirm 102 = .ok (.ireturn, 1) := by decide +kernel
theorem d_TS_tick_0 : decode b_TS_tick 0 = .ok (.aload_n 0, 1) := by decide +kernel
theorem d_TS_tick_1 : decode b_TS_tick 1 = .ok (.getfield 10, 3) := by decide +kernel
theorem d_TS_tick_4 : decode b_TS_tick 4 = .ok (.getfield 143, 3) := by decide +kernel
theorem d_TS_tick_7 : decode b_TS_tick 7 = .ok (.ifCond .eq 6, 3) := by decide +kernel
theorem d_TS_tick_10 : decode b_TS_tick 10 = .ok (.bipush (-100), 2) := by decide +kernel
theorem d_TS_tick_12 : decode b_TS_tick 12 = .ok (.ireturn, 1) := by decide +kernel
theorem d_TS_tick_13 : decode b_TS_tick 13 = .ok (.iload_n 1, 1) := by decide +kernel
theorem d_TS_tick_14 : decode b_TS_tick 14 = .ok (.iconst 1, 1) := by decide +kernel
theorem d_TS_tick_15 : decode b_TS_tick 15 = .ok (.if_icmp .lt 9, 3) := by decide +kernel
theorem d_TS_tick_18 : decode b_TS_tick 18 = .ok (.iload_n 1, 1) := by decide +kernel
theorem d_TS_tick_19 : decode b_TS_tick 19 = .ok (.bipush 100, 2) := by decide +kernel
theorem d_TS_tick_21 : decode b_TS_tick 21 = .ok (.if_icmp .le 6, 3) := by decide +kernel
theorem d_TS_tick_24 : decode b_TS_tick 24 = .ok (.bipush (-102), 2) := by decide +kernel
theorem d_TS_tick_26 : decode b_TS_tick 26 = .ok (.ireturn, 1) := by decide +kernel
theorem d_TS_tick_27 : decode b_TS_tick 27 = .ok (.iconst 0, 1) := by decide +kernel
theorem d_TS_tick_28 : decode b_TS_tick 28 = .ok (.istore_n 2, 1) := by decide +kernel
theorem d_TS_tick_29 : decode b_TS_tick 29 = .ok (.iconst 0, 1) := by decide +kernel
theorem d_TS_tick_30 : decode b_TS_tick 30 = .ok (.istore_n 3, 1) := by decide +kernel
theorem d_TS_tick_31 : decode b_TS_tick 31 = .ok (.iload_n 3, 1) := by decide +kernel
theorem d_TS_tick_32 : decode b_TS_tick 32 = .ok (.iload_n 1, 1) := by decide +kernel
theorem d_TS_tick_33 : decode b_TS_tick 33 = .ok (.if_icmp .ge 58, 3) := by decide +kernel
theorem d_TS_tick_36 : decode b_TS_tick 36 = .ok (.aload_n 0, 1) := by decide +kernel
theorem d_TS_tick_37 : decode b_TS_tick 37 = .ok (.getfield 59, 3) := by decide +kernel
theorem d_TS_tick_40 : decode b_TS_tick 40 = .ok (.ifCond .le 51, 3) := by decide +kernel
theorem d_TS_tick_43 : decode b_TS_tick 43 = .ok (.aload_n 0, 1) := by decide +kernel
theorem d_TS_tick_44 : decode b_TS_tick 44 = .ok (.dup, 1) := by decide +kernel
theorem d_TS_tick_45 : decode b_TS_tick 45 = .ok (.getfield 59, 3) := by decide +kernel
theorem d_TS_tick_48 : decode b_TS_tick 48 = .ok (.iconst 1, 1) := by decide +kernel
theorem d_TS_tick_49 : decode b_TS_tick 49 = .ok (.isub, 1) := by decide +kernel
theorem d_TS_tick_50 : decode b_TS_tick 50 = .ok (.putfield 59, 3) := by decide +kernel
theorem d_TS_tick_53 : decode b_TS_tick 53 = .ok (.aload_n 0, 1) := by decide +kernel
theorem d_TS_tick_54 : decode b_TS_tick 54 = .ok (.getfield 59, 3) := by decide +kernel
theorem d_TS_tick_57 : decode b_TS_tick 57 = .ok (.ifCond .ne 28, 3) := by decide +kernel
theorem d_TS_tick_60 : decode b_TS_tick 60 = .ok (.iinc 2 1, 3) := by decide +kernel
theorem d_TS_tick_63 : decode b_TS_tick 63 = .ok (.aload_n 0, 1) := by decide +kernel
theorem d_TS_tick_64 : decode b_TS_tick 64 = .ok (.dup, 1) := by decide +kernel
theorem d_TS_tick_65 : decode b_TS_tick 65 = .ok (.getfield 68, 3) := by decide +kernel
theorem d_TS_tick_68 : decode b_TS_tick 68 = .ok (.iconst 1, 1) := by decide +kernel
theorem d_TS_tick_69 : decode b_TS_tick 69 = .ok (.iadd, 1) := by decide +kernel
theorem d_TS_tick_70 : decode b_TS_tick 70 = .ok (.putfield 68, 3) := by decide +kernel
theorem d_TS_tick_73 : decode b_TS_tick 73 = .ok (.aload_n 0, 1) := by decide +kernel
theorem d_TS_tick_74 : decode b_TS_tick 74 = .ok (.invokevirtual 192, 3) := by decide +kernel
theorem d_TS_tick_77 : decode b_TS_tick 77 = .ok (.bipush (-106), 2) := by decide +kernel
theorem d_TS_tick_79 : decode b_TS_tick 79 = .ok (.if_icmp .ne 6, 3) := by decide +kernel
theorem d_TS_tick_82 : decode b_TS_tick 82 = .ok (.bipush (-106), 2) := by decide +kernel
theorem d_TS_tick_84 : decode b_TS_tick 84 = .ok (.ireturn, 1) := by decide +kernel
theorem d_TS_tick_85 : decode b_TS_tick 85 = .ok (.iinc 3 1, 3) := by decide +kernel
theorem d_TS_tick_88 : decode b_TS_tick 88 = .ok (.goto (-57), 3) := by decide +kernel
theorem d_TS_tick_91 : decode b_TS_tick 91 = .ok (.iload_n 2, 1) := by decide +kernel
theorem d_TS_tick_92 : decode b_TS_tick 92 = .ok (.ireturn, 1) := by decide +kernel
theorem d_TS_revoke_0 : decode b_TS_revoke 0 = .ok (.aload_n 0, 1) := by decide +kernel
theorem d_TS_revoke_1 : decode b_TS_revoke 1 = .ok (.getfield 10, 3) := by decide +kernel
theorem d_TS_revoke_4 : decode b_TS_revoke 4 = .ok (.getfield 143, 3) := by decide +kernel
theorem d_TS_revoke_7 : decode b_TS_revoke 7 = .ok (.ifCond .eq 6, 3) := by decide +kernel
theorem d_TS_revoke_10 : decode b_TS_revoke 10 = .ok (.bipush (-100), 2) := by decide +kernel
theorem d_TS_revoke_12 : decode b_TS_revoke 12 = .ok (.ireturn, 1) := by decide +kernel
theorem d_TS_revoke_13 : decode b_TS_revoke 13 = .ok (.iload_n 1, 1) := by decide +kernel
theorem d_TS_revoke_14 : decode b_TS_revoke 14 = .ok (.ifCond .lt 8, 3) := by decide +kernel
theorem d_TS_revoke_17 : decode b_TS_revoke 17 = .ok (.iload_n 1, 1) := by decide +kernel
theorem d_TS_revoke_18 : decode b_TS_revoke 18 = .ok (.iconst 4, 1) := by decide +kernel
theorem d_TS_revoke_19 : decode b_TS_revoke 19 = .ok (.if_icmp .lt 6, 3) := by decide +kernel
theorem d_TS_revoke_22 : decode b_TS_revoke 22 = .ok (.bipush (-101), 2) := by decide +kernel
theorem d_TS_revoke_24 : decode b_TS_revoke 24 = .ok (.ireturn, 1) := by decide +kernel
theorem d_TS_revoke_25 : decode b_TS_revoke 25 = .ok (.aload_n 0, 1) := by decide +kernel
theorem d_TS_revoke_26 : decode b_TS_revoke 26 = .ok (.invokevirtual 147, 3) := by decide +kernel
theorem d_TS_revoke_29 : decode b_TS_revoke 29 = .ok (.ifCond .eq 33, 3) := by decide +kernel
theorem d_TS_revoke_32 : decode b_TS_revoke 32 = .ok (.aload_n 0, 1) := by decide +kernel
theorem d_TS_revoke_33 : decode b_TS_revoke 33 = .ok (.getfield 50, 3) := by decide +kernel
theorem d_TS_revoke_36 : decode b_TS_revoke 36 = .ok (.iconst (-1), 1) := by decide +kernel
theorem d_TS_revoke_37 : decode b_TS_revoke 37 = .ok (.if_icmp .ne 25, 3) := by decide +kernel
theorem d_TS_revoke_40 : decode b_TS_revoke 40 = .ok (.aload_n 0, 1) := by decide +kernel
theorem d_TS_revoke_41 : decode b_TS_revoke 41 = .ok (.getfield 21, 3) := by decide +kernel
theorem d_TS_revoke_44 : decode b_TS_revoke 44 = .ok (.getfield 151, 3) := by decide +kernel
theorem d_TS_revoke_47 : decode b_TS_revoke 47 = .ok (.iconst (-1), 1) := by decide +kernel
theorem d_TS_revoke_48 : decode b_TS_revoke 48 = .ok (.if_icmp .eq 14, 3) := by decide +kernel
theorem d_TS_revoke_51 : decode b_TS_revoke 51 = .ok (.aload_n 0, 1) := by decide +kernel
theorem d_TS_revoke_52 : decode b_TS_revoke 52 = .ok (.getfield 21, 3) := by decide +kernel
theorem d_TS_revoke_55 : decode b_TS_revoke 55 = .ok (.getfield 204, 3) := by decide +kernel
theorem d_TS_revoke_58 : decode b_TS_revoke 58 = .ok (.iconst (-1), 1) := by decide +kernel
theorem d_TS_revoke_59 : decode b_TS_revoke 59 = .ok (.if_icmp .eq 6, 3) := by decide +kernel
theorem d_TS_revoke_62 : decode b_TS_revoke 62 = .ok (.bipush (-103), 2) := by decide +kernel
theorem d_TS_revoke_64 : decode b_TS_revoke 64 = .ok (.ireturn, 1) := by decide +kernel
theorem d_TS_revoke_65 : decode b_TS_revoke 65 = .ok (.aload_n 0, 1) := by decide +kernel
theorem d_TS_revoke_66 : decode b_TS_revoke 66 = .ok (.aload_n 0, 1) := by decide +kernel
theorem d_TS_revoke_67 : decode b_TS_revoke 67 = .ok (.getfield 56, 3) := by decide +kernel
theorem d_TS_revoke_70 : decode b_TS_revoke 70 = .ok (.invokevirtual 195, 3) := by decide +kernel
theorem d_TS_revoke_73 : decode b_TS_revoke 73 = .ok (.aload_n 0, 1) := by decide +kernel
theorem d_TS_revoke_74 : decode b_TS_revoke 74 = .ok (.getfield 43, 3) := by decide +kernel
theorem d_TS_revoke_77 : decode b_TS_revoke 77 = .ok (.invokevirtual 207, 3) := by decide +kernel
theorem d_TS_revoke_80 : decode b_TS_revoke 80 = .ok (.iload_n 1, 1) := by decide +kernel
theorem d_TS_revoke_81 : decode b_TS_revoke 81 = .ok (.if_icmp .ne 6, 3) := by decide +kernel
theorem d_TS_revoke_84 : decode b_TS_revoke 84 = .ok (.bipush (-103), 2) := by decide +kernel
theorem d_TS_revoke_86 : decode b_TS_revoke 86 = .ok (.ireturn, 1) := by decide +kernel
theorem d_TS_revoke_87 : decode b_TS_revoke 87 = .ok (.aload_n 0, 1) := by decide +kernel
theorem d_TS_revoke_88 : decode b_TS_revoke 88 = .ok (.iload_n 1, 1) := by decide +kernel
theorem d_TS_revoke_89 : decode b_TS_revoke 89 = .ok (.invokevirtual 209, 3) := by decide +kernel
theorem d_TS_revoke_92 : decode b_TS_revoke 92 = .ok (.ifCond .eq 5, 3) := by decide +kernel
theorem d_TS_revoke_95 : decode b_TS_revoke 95 = .ok (.iconst 0, 1) := by decide +kernel
theorem d_TS_revoke_96 : decode b_TS_revoke 96 = .ok (.ireturn, 1) := by decide +kernel
theorem d_TS_revoke_97 : decode b_TS_revoke 97 = .ok (.aload_n 0, 1) := by decide +kernel
theorem d_TS_revoke_98 : decode b_TS_revoke 98 = .ok (.getfield 21, 3) := by decide +kernel
theorem d_TS_revoke_101 : decode b_TS_revoke 101 = .ok (.aload_n 0, 1) := by decide +kernel
theorem d_TS_revoke_102 : decode b_TS_revoke 102 = .ok (.getfield 21, 3) := by decide +kernel
theorem d_TS_revoke_105 : decode b_TS_revoke 105 = .ok (.getfield 212, 3) := by decide +kernel
theorem d_TS_revoke_108 : decode b_TS_revoke 108 = .ok (.iconst 1, 1) := by decide +kernel
theorem d_TS_revoke_109 : decode b_TS_revoke 109 = .ok (.iload_n 1, 1) := by decide +kernel
theorem d_TS_revoke_110 : decode b_TS_revoke 110 = .ok (.ishl, 1) := by decide +kernel
theorem d_TS_revoke_111 : decode b_TS_revoke 111 = .ok (.ior, 1) := by decide +kernel
theorem d_TS_revoke_112 : decode b_TS_revoke 112 = .ok (.invokevirtual 215, 3) := by decide +kernel
theorem d_TS_revoke_115 : decode b_TS_revoke 115 = .ok (.ifCond .ne 8, 3) := by decide +kernel
theorem d_TS_revoke_118 : decode b_TS_revoke 118 = .ok (.aload_n 0, 1) := by decide +kernel
theorem d_TS_revoke_119 : decode b_TS_revoke 119 = .ok (.invokevirtual 173, 3) := by decide +kernel
theorem d_TS_revoke_122 : decode b_TS_revoke 122 = .ok (.ireturn, 1) := by decide +kernel
theorem d_TS_revoke_123 : decode b_TS_revoke 123 = .ok (.iconst 1, 1) := by decide +kernel
theorem d_TS_revoke_124 : decode b_TS_revoke 124 = .ok (.ireturn, 1) := by decide +kernel
theorem d_TS_cut_0 : decode b_TS_cut 0 = .ok (.aload_n 0, 1) := by decide +kernel
theorem d_TS_cut_1 : decode b_TS_cut 1 = .ok (.getfield 10, 3) := by decide +kernel
theorem d_TS_cut_4 : decode b_TS_cut 4 = .ok (.getfield 143, 3) := by decide +kernel
theorem d_TS_cut_7 : decode b_TS_cut 7 = .ok (.ifCond .eq 6, 3) := by decide +kernel
theorem d_TS_cut_10 : decode b_TS_cut 10 = .ok (.bipush (-100), 2) := by decide +kernel
theorem d_TS_cut_12 : decode b_TS_cut 12 = .ok (.ireturn, 1) := by decide +kernel
theorem d_TS_cut_13 : decode b_TS_cut 13 = .ok (.iload_n 1, 1) := by decide +kernel
theorem d_TS_cut_14 : decode b_TS_cut 14 = .ok (.iconst (-1), 1) := by decide +kernel
theorem d_TS_cut_15 : decode b_TS_cut 15 = .ok (.if_icmp .lt 20, 3) := by decide +kernel
theorem d_TS_cut_18 : decode b_TS_cut 18 = .ok (.iload_n 1, 1) := by decide +kernel
theorem d_TS_cut_19 : decode b_TS_cut 19 = .ok (.sipush 1000, 3) := by decide +kernel
theorem d_TS_cut_22 : decode b_TS_cut 22 = .ok (.if_icmp .gt 13, 3) := by decide +kernel
theorem d_TS_cut_25 : decode b_TS_cut 25 = .ok (.iload_n 2, 1) := by decide +kernel
theorem d_TS_cut_26 : decode b_TS_cut 26 = .ok (.ifCond .lt 9, 3) := by decide +kernel
theorem d_TS_cut_29 : decode b_TS_cut 29 = .ok (.iload_n 2, 1) := by decide +kernel
theorem d_TS_cut_30 : decode b_TS_cut 30 = .ok (.bipush 64, 2) := by decide +kernel
theorem d_TS_cut_32 : decode b_TS_cut 32 = .ok (.if_icmp .lt 6, 3) := by decide +kernel
theorem d_TS_cut_35 : decode b_TS_cut 35 = .ok (.bipush (-102), 2) := by decide +kernel
theorem d_TS_cut_37 : decode b_TS_cut 37 = .ok (.ireturn, 1) := by decide +kernel
theorem d_TS_cut_38 : decode b_TS_cut 38 = .ok (.aload_n 0, 1) := by decide +kernel
theorem d_TS_cut_39 : decode b_TS_cut 39 = .ok (.getfield 10, 3) := by decide +kernel
theorem d_TS_cut_42 : decode b_TS_cut 42 = .ok (.iload_n 1, 1) := by decide +kernel
theorem d_TS_cut_43 : decode b_TS_cut 43 = .ok (.putfield 218, 3) := by decide +kernel
theorem d_TS_cut_46 : decode b_TS_cut 46 = .ok (.aload_n 0, 1) := by decide +kernel
theorem d_TS_cut_47 : decode b_TS_cut 47 = .ok (.getfield 10, 3) := by decide +kernel
theorem d_TS_cut_50 : decode b_TS_cut 50 = .ok (.iload_n 2, 1) := by decide +kernel
theorem d_TS_cut_51 : decode b_TS_cut 51 = .ok (.putfield 221, 3) := by decide +kernel
theorem d_TS_cut_54 : decode b_TS_cut 54 = .ok (.iconst 1, 1) := by decide +kernel
theorem d_TS_cut_55 : decode b_TS_cut 55 = .ok (.ireturn, 1) := by decide +kernel
theorem d_TS_start_0 : decode b_TS_start 0 = .ok (.aload_n 0, 1) := by decide +kernel
theorem d_TS_start_1 : decode b_TS_start 1 = .ok (.getfield 10, 3) := by decide +kernel
theorem d_TS_start_4 : decode b_TS_start 4 = .ok (.getfield 143, 3) := by decide +kernel
theorem d_TS_start_7 : decode b_TS_start 7 = .ok (.ifCond .ne 6, 3) := by decide +kernel
theorem d_TS_start_10 : decode b_TS_start 10 = .ok (.bipush (-103), 2) := by decide +kernel
