theorem d_MO_offer_115 : decode b_MO_offer 115 = .ok (.bipush (-106), 2) := by decide +kernel
theorem d_MO_offer_117 : decode b_MO_offer 117 = .ok (.ireturn, 1) := by decide +kernel
theorem d_MO_offer_118 : decode b_MO_offer 118 = .ok (.iconst 0, 1) := by decide +kernel
theorem d_MO_offer_119 : decode b_MO_offer 119 = .ok (.istore_n 3, 1) := by decide +kernel
theorem d_MO_offer_120 : decode b_MO_offer 120 = .ok (.iload_n 3, 1) := by decide +kernel
theorem d_MO_offer_121 : decode b_MO_offer 121 = .ok (.bipush 64, 2) := by decide +kernel
theorem d_MO_offer_123 : decode b_MO_offer 123 = .ok (.if_icmp .ge 21, 3) := by decide +kernel
theorem d_MO_offer_126 : decode b_MO_offer 126 = .ok (.aload_n 0, 1) := by decide +kernel
theorem d_MO_offer_127 : decode b_MO_offer 127 = .ok (.getfield 23, 3) := by decide +kernel
theorem d_MO_offer_130 : decode b_MO_offer 130 = .ok (.iload_n 3, 1) := by decide +kernel
theorem d_MO_offer_131 : decode b_MO_offer 131 = .ok (.aload_n 0, 1) := by decide +kernel
theorem d_MO_offer_132 : decode b_MO_offer 132 = .ok (.getfield 20, 3) := by decide +kernel
theorem d_MO_offer_135 : decode b_MO_offer 135 = .ok (.iload_n 3, 1) := by decide +kernel
theorem d_MO_offer_136 : decode b_MO_offer 136 = .ok (.iaload, 1) := by decide +kernel
theorem d_MO_offer_137 : decode b_MO_offer 137 = .ok (.iastore, 1) := by decide +kernel
theorem d_MO_offer_138 : decode b_MO_offer 138 = .ok (.iinc 3 1, 3) := by decide +kernel
theorem d_MO_offer_141 : decode b_MO_offer 141 = .ok (.goto (-21), 3) := by decide +kernel
theorem d_MO_offer_144 : decode b_MO_offer 144 = .ok (.aload_n 0, 1) := by decide +kernel
theorem d_MO_offer_145 : decode b_MO_offer 145 = .ok (.iload_n 2, 1) := by decide +kernel
theorem d_MO_offer_146 : decode b_MO_offer 146 = .ok (.putfield 26, 3) := by decide +kernel
theorem d_MO_offer_149 : decode b_MO_offer 149 = .ok (.aload_n 0, 1) := by decide +kernel
theorem d_MO_offer_150 : decode b_MO_offer 150 = .ok (.iconst 0, 1) := by decide +kernel
theorem d_MO_offer_151 : decode b_MO_offer 151 = .ok (.putfield 159, 3) := by decide +kernel
theorem d_MO_offer_154 : decode b_MO_offer 154 = .ok (.iload_n 2, 1) := by decide +kernel
theorem d_MO_offer_155 : decode b_MO_offer 155 = .ok (.ireturn, 1) := by decide +kernel
theorem d_MO_awaited_0 : decode b_MO_awaited 0 = .ok (.aload_n 0, 1) := by decide +kernel
theorem d_MO_awaited_1 : decode b_MO_awaited 1 = .ok (.getfield 26, 3) := by decide +kernel
theorem d_MO_awaited_4 : decode b_MO_awaited 4 = .ok (.iconst (-1), 1) := by decide +kernel
theorem d_MO_awaited_5 : decode b_MO_awaited 5 = .ok (.if_icmp .ne 7, 3) := by decide +kernel
theorem d_MO_awaited_8 : decode b_MO_awaited 8 = .ok (.iconst 0, 1) := by decide +kernel
theorem d_MO_awaited_9 : decode b_MO_awaited 9 = .ok (.goto 20, 3) := by decide +kernel
theorem d_MO_awaited_12 : decode b_MO_awaited 12 = .ok (.aload_n 0, 1) := by decide +kernel
theorem d_MO_awaited_13 : decode b_MO_awaited 13 = .ok (.aload_n 0, 1) := by decide +kernel
theorem d_MO_awaited_14 : decode b_MO_awaited 14 = .ok (.getfield 23, 3) := by decide +kernel
theorem d_MO_awaited_17 : decode b_MO_awaited 17 = .ok (.bipush 8, 2) := by decide +kernel
theorem d_MO_awaited_19 : decode b_MO_awaited 19 = .ok (.iconst 4, 1) := by decide +kernel
theorem d_MO_awaited_20 : decode b_MO_awaited 20 = .ok (.invokevirtual 68, 3) := by decide +kernel
theorem d_MO_awaited_23 : decode b_MO_awaited 23 = .ok (.l2i, 1) := by decide +kernel
theorem d_MO_awaited_24 : decode b_MO_awaited 24 = .ok (.aload_n 0, 1) := by decide +kernel
theorem d_MO_awaited_25 : decode b_MO_awaited 25 = .ok (.getfield 159, 3) := by decide +kernel
theorem d_MO_awaited_28 : decode b_MO_awaited 28 = .ok (.isub, 1) := by decide +kernel
theorem d_MO_awaited_29 : decode b_MO_awaited 29 = .ok (.ireturn, 1) := by decide +kernel
theorem d_MO_block_0 : decode b_MO_block 0 = .ok (.aload_n 0, 1) := by decide +kernel
theorem d_MO_block_1 : decode b_MO_block 1 = .ok (.getfield 100, 3) := by decide +kernel
theorem d_MO_block_4 : decode b_MO_block 4 = .ok (.ifCond .eq 6, 3) := by decide +kernel
theorem d_MO_block_7 : decode b_MO_block 7 = .ok (.bipush (-100), 2) := by decide +kernel
theorem d_MO_block_9 : decode b_MO_block 9 = .ok (.ireturn, 1) := by decide +kernel
theorem d_MO_block_10 : decode b_MO_block 10 = .ok (.aload_n 0, 1) := by decide +kernel
theorem d_MO_block_11 : decode b_MO_block 11 = .ok (.getfield 26, 3) := by decide +kernel
theorem d_MO_block_14 : decode b_MO_block 14 = .ok (.iconst (-1), 1) := by decide +kernel
theorem d_MO_block_15 : decode b_MO_block 15 = .ok (.if_icmp .eq 10, 3) := by decide +kernel
theorem d_MO_block_18 : decode b_MO_block 18 = .ok (.aload_n 0, 1) := by decide +kernel
theorem d_MO_block_19 : decode b_MO_block 19 = .ok (.invokevirtual 162, 3) := by decide +kernel
theorem d_MO_block_22 : decode b_MO_block 22 = .ok (.ifCond .ne 6, 3) := by decide +kernel
theorem d_MO_block_25 : decode b_MO_block 25 = .ok (.bipush (-103), 2) := by decide +kernel
theorem d_MO_block_27 : decode b_MO_block 27 = .ok (.ireturn, 1) := by decide +kernel
theorem d_MO_block_28 : decode b_MO_block 28 = .ok (.aload_n 0, 1) := by decide +kernel
theorem d_MO_block_29 : decode b_MO_block 29 = .ok (.getfield 107, 3) := by decide +kernel
theorem d_MO_block_32 : decode b_MO_block 32 = .ok (.bipush 64, 2) := by decide +kernel
theorem d_MO_block_34 : decode b_MO_block 34 = .ok (.if_icmp .ne 7, 3) := by decide +kernel
theorem d_MO_block_37 : decode b_MO_block 37 = .ok (.iconst 1, 1) := by decide +kernel
theorem d_MO_block_38 : decode b_MO_block 38 = .ok (.goto 4, 3) := by decide +kernel
theorem d_MO_block_41 : decode b_MO_block 41 = .ok (.iconst 0, 1) := by decide +kernel
theorem d_MO_block_42 : decode b_MO_block 42 = .ok (.istore_n 1, 1) := by decide +kernel
theorem d_MO_block_43 : decode b_MO_block 43 = .ok (.aload_n 0, 1) := by decide +kernel
theorem d_MO_block_44 : decode b_MO_block 44 = .ok (.iconst 0, 1) := by decide +kernel
theorem d_MO_block_45 : decode b_MO_block 45 = .ok (.putfield 107, 3) := by decide +kernel
theorem d_MO_block_48 : decode b_MO_block 48 = .ok (.iload_n 1, 1) := by decide +kernel
theorem d_MO_block_49 : decode b_MO_block 49 = .ok (.ifCond .ne 6, 3) := by decide +kernel
theorem d_MO_block_52 : decode b_MO_block 52 = .ok (.bipush (-105), 2) := by decide +kernel
theorem d_MO_block_54 : decode b_MO_block 54 = .ok (.ireturn, 1) := by decide +kernel
theorem d_MO_block_55 : decode b_MO_block 55 = .ok (.aload_n 0, 1) := by decide +kernel
theorem d_MO_block_56 : decode b_MO_block 56 = .ok (.getfield 26, 3) := by decide +kernel
theorem d_MO_block_59 : decode b_MO_block 59 = .ok (.invokestatic 84, 3) := by decide +kernel
theorem d_MO_block_62 : decode b_MO_block 62 = .ok (.bipush 64, 2) := by decide +kernel
theorem d_MO_block_64 : decode b_MO_block 64 = .ok (.iconst 1, 1) := by decide +kernel
theorem d_MO_block_65 : decode b_MO_block 65 = .ok (.aload_n 0, 1) := by decide +kernel
theorem d_MO_block_66 : decode b_MO_block 66 = .ok (.getfield 159, 3) := by decide +kernel
theorem d_MO_block_69 : decode b_MO_block 69 = .ok (.iadd, 1) := by decide +kernel
theorem d_MO_block_70 : decode b_MO_block 70 = .ok (.imul, 1) := by decide +kernel
theorem d_MO_block_71 : decode b_MO_block 71 = .ok (.iadd, 1) := by decide +kernel
theorem d_MO_block_72 : decode b_MO_block 72 = .ok (.istore_n 2, 1) := by decide +kernel
theorem d_MO_block_73 : decode b_MO_block 73 = .ok (.aload_n 0, 1) := by decide +kernel
theorem d_MO_block_74 : decode b_MO_block 74 = .ok (.iload_n 2, 1) := by decide +kernel
theorem d_MO_block_75 : decode b_MO_block 75 = .ok (.bipush 64, 2) := by decide +kernel
theorem d_MO_block_77 : decode b_MO_block 77 = .ok (.idiv, 1) := by decide +kernel
theorem d_MO_block_78 : decode b_MO_block 78 = .ok (.invokevirtual 122, 3) := by decide +kernel
theorem d_MO_block_81 : decode b_MO_block 81 = .ok (.ifCond .ne 6, 3) := by decide +kernel
theorem d_MO_block_84 : decode b_MO_block 84 = .ok (.bipush (-106), 2) := by decide +kernel
theorem d_MO_block_86 : decode b_MO_block 86 = .ok (.ireturn, 1) := by decide +kernel
theorem d_MO_block_87 : decode b_MO_block 87 = .ok (.iconst 0, 1) := by decide +kernel
theorem d_MO_block_88 : decode b_MO_block 88 = .ok (.istore_n 3, 1) := by decide +kernel
theorem d_MO_block_89 : decode b_MO_block 89 = .ok (.iload_n 3, 1) := by decide +kernel
theorem d_MO_block_90 : decode b_MO_block 90 = .ok (.bipush 64, 2) := by decide +kernel
theorem d_MO_block_92 : decode b_MO_block 92 = .ok (.if_icmp .ge 27, 3) := by decide +kernel
theorem d_MO_block_95 : decode b_MO_block 95 = .ok (.aload_n 0, 1) := by decide +kernel
theorem d_MO_block_96 : decode b_MO_block 96 = .ok (.iload_n 2, 1) := by decide +kernel
theorem d_MO_block_97 : decode b_MO_block 97 = .ok (.iload_n 3, 1) := by decide +kernel
theorem d_MO_block_98 : decode b_MO_block 98 = .ok (.iadd, 1) := by decide +kernel
theorem d_MO_block_99 : decode b_MO_block 99 = .ok (.aload_n 0, 1) := by decide +kernel
theorem d_MO_block_100 : decode b_MO_block 100 = .ok (.getfield 20, 3) := by decide +kernel
theorem d_MO_block_103 : decode b_MO_block 103 = .ok (.iload_n 3, 1) := by decide +kernel
theorem d_MO_block_104 : decode b_MO_block 104 = .ok (.invokevirtual 125, 3) := by decide +kernel
theorem d_MO_block_107 : decode b_MO_block 107 = .ok (.ifCond .ne 6, 3) := by decide +kernel
theorem d_MO_block_110 : decode b_MO_block 110 = .ok (.bipush (-106), 2) := by decide +kernel
theorem d_MO_block_112 : decode b_MO_block 112 = .ok (.ireturn, 1) := by decide +kernel
theorem d_MO_block_113 : decode b_MO_block 113 = .ok (.iinc 3 16, 3) := by decide +kernel
theorem d_MO_block_116 : decode b_MO_block 116 = .ok (.goto (-27), 3) := by decide +kernel
theorem d_MO_block_119 : decode b_MO_block 119 = .ok (.aload_n 0, 1) := by decide +kernel
theorem d_MO_block_120 : decode b_MO_block 120 = .ok (.dup, 1) := by decide +kernel
theorem d_MO_block_121 : decode b_MO_block 121 = .ok (.getfield 159, 3) := by decide +kernel
theorem d_MO_block_124 : decode b_MO_block 124 = .ok (.iconst 1, 1) := by decide +kernel
theorem d_MO_block_125 : decode b_MO_block 125 = .ok (.iadd, 1) := by decide +kernel
theorem d_MO_block_126 : decode b_MO_block 126 = .ok (.putfield 159, 3) := by decide +kernel
theorem d_MO_block_129 : decode b_MO_block 129 = .ok (.aload_n 0, 1) := by decide +kernel
theorem d_MO_block_130 : decode b_MO_block 130 = .ok (.invokevirtual 162, 3) := by decide +kernel
theorem d_MO_block_133 : decode b_MO_block 133 = .ok (.ireturn, 1) := by decide +kernel
theorem d_MO_finish_0 : decode b_MO_finish 0 = .ok (.aload_n 0, 1) := by decide +kernel
theorem d_MO_finish_1 : decode b_MO_finish 1 = .ok (.getfield 100, 3) := by decide +kernel
theorem d_MO_finish_4 : decode b_MO_finish 4 = .ok (.ifCond .eq 6, 3) := by decide +kernel
theorem d_MO_finish_7 : decode b_MO_finish 7 = .ok (.bipush (-100), 2) := by decide +kernel
theorem d_MO_finish_9 : decode b_MO_finish 9 = .ok (.ireturn, 1) := by decide +kernel
theorem d_MO_finish_10 : decode b_MO_finish 10 = .ok (.aload_n 0, 1) := by decide +kernel
theorem d_MO_finish_11 : decode b_MO_finish 11 = .ok (.getfield 26, 3) := by decide +kernel
theorem d_MO_finish_14 : decode b_MO_finish 14 = .ok (.iconst (-1), 1) := by decide +kernel
theorem d_MO_finish_15 : decode b_MO_finish 15 = .ok (.if_icmp .eq 18, 3) := by decide +kernel
theorem d_MO_finish_18 : decode b_MO_finish 18 = .ok (.aload_n 0, 1) := by decide +kernel
theorem d_MO_finish_19 : decode b_MO_finish 19 = .ok (.invokevirtual 162, 3) := by decide +kernel
theorem d_MO_finish_22 : decode b_MO_finish 22 = .ok (.ifCond .gt 11, 3) := by decide +kernel
theorem d_MO_finish_25 : decode b_MO_finish 25 = .ok (.aload_n 0, 1) := by decide +kernel
theorem d_MO_finish_26 : decode b_MO_finish 26 = .ok (.invokevirtual 80, 3) := by decide +kernel
theorem d_MO_finish_29 : decode b_MO_finish 29 = .ok (.iconst (-1), 1) := by decide +kernel
theorem d_MO_finish_30 : decode b_MO_finish 30 = .ok (.if_icmp .ne 6, 3) := by decide +kernel
theorem d_MO_finish_33 : decode b_MO_finish 33 = .ok (.bipush (-103), 2) := by decide +kernel
theorem d_MO_finish_35 : decode b_MO_finish 35 = .ok (.ireturn, 1) := by decide +kernel
theorem d_MO_finish_36 : decode b_MO_finish 36 = .ok (.aload_n 0, 1) := by decide +kernel
theorem d_MO_finish_37 : decode b_MO_finish 37 = .ok (.getfield 26, 3) := by decide +kernel
theorem d_MO_finish_40 : decode b_MO_finish 40 = .ok (.istore_n 1, 1) := by decide +kernel
theorem d_MO_finish_41 : decode b_MO_finish 41 = .ok (.aload_n 0, 1) := by decide +kernel
theorem d_MO_finish_42 : decode b_MO_finish 42 = .ok (.iload_n 1, 1) := by decide +kernel
theorem d_MO_finish_43 : decode b_MO_finish 43 = .ok (.aload_n 0, 1) := by decide +kernel
theorem d_MO_finish_44 : decode b_MO_finish 44 = .ok (.getfield 23, 3) := by decide +kernel
theorem d_MO_finish_47 : decode b_MO_finish 47 = .ok (.iconst 0, 1) := by decide +kernel
theorem d_MO_finish_48 : decode b_MO_finish 48 = .ok (.invokevirtual 96, 3) := by decide +kernel
theorem d_MO_finish_51 : decode b_MO_finish 51 = .ok (.aload_n 0, 1) := by decide +kernel
theorem d_MO_finish_52 : decode b_MO_finish 52 = .ok (.aload_n 0, 1) := by decide +kernel
theorem d_MO_finish_53 : decode b_MO_finish 53 = .ok (.getfield 23, 3) := by decide +kernel
theorem d_MO_finish_56 : decode b_MO_finish 56 = .ok (.bipush 20, 2) := by decide +kernel
theorem d_MO_finish_58 : decode b_MO_finish 58 = .ok (.bipush 8, 2) := by decide +kernel
theorem d_MO_finish_60 : decode b_MO_finish 60 = .ok (.invokevirtual 68, 3) := by decide +kernel
theorem d_MO_finish_63 : decode b_MO_finish 63 = .ok (.lcmp, 1) := by decide +kernel
theorem d_MO_finish_64 : decode b_MO_finish 64 = .ok (.ifCond .eq 11, 3) := by decide +kernel
theorem d_MO_finish_67 : decode b_MO_finish 67 = .ok (.aload_n 0, 1) := by decide +kernel
theorem d_MO_finish_68 : decode b_MO_finish 68 = .ok (.iconst (-1), 1) := by decide +kernel
theorem d_MO_finish_69 : decode b_MO_finish 69 = .ok (.putfield 26, 3) := by decide +kernel
theorem d_MO_finish_72 : decode b_MO_finish 72 = .ok (.bipush (-105), 2) := by decide +kernel
theorem d_MO_finish_74 : decode b_MO_finish 74 = .ok (.ireturn, 1) := by decide +kernel
theorem d_MO_finish_75 : decode b_MO_finish 75 = .ok (.iconst 0, 1) := by decide +kernel
theorem d_MO_finish_76 : decode b_MO_finish 76 = .ok (.istore_n 2, 1) := by decide +kernel
theorem d_MO_finish_77 : decode b_MO_finish 77 = .ok (.iload_n 2, 1) := by decide +kernel
theorem d_MO_finish_78 : decode b_MO_finish 78 = .ok (.bipush 64, 2) := by decide +kernel
theorem d_MO_finish_80 : decode b_MO_finish 80 = .ok (.if_icmp .ge 30, 3) := by decide +kernel
theorem d_MO_finish_83 : decode b_MO_finish 83 = .ok (.aload_n 0, 1) := by decide +kernel
theorem d_MO_finish_84 : decode b_MO_finish 84 = .ok (.iload_n 1, 1) := by decide +kernel
theorem d_MO_finish_85 : decode b_MO_finish 85 = .ok (.invokestatic 84, 3) := by decide +kernel
theorem d_MO_finish_88 : decode b_MO_finish 88 = .ok (.iload_n 2, 1) := by decide +kernel
theorem d_MO_finish_89 : decode b_MO_finish 89 = .ok (.iadd, 1) := by decide +kernel
theorem d_MO_finish_90 : decode b_MO_finish 90 = .ok (.aload_n 0, 1) := by decide +kernel
theorem d_MO_finish_91 : decode b_MO_finish 91 = .ok (.getfield 23, 3) := by decide +kernel
theorem d_MO_finish_94 : decode b_MO_finish 94 = .ok (.iload_n 2, 1) := by decide +kernel
theorem d_MO_finish_95 : decode b_MO_finish 95 = .ok (.invokevirtual 125, 3) := by decide +kernel
theorem d_MO_finish_98 : decode b_MO_finish 98 = .ok (.ifCond .ne 6, 3) := by decide +kernel
theorem d_MO_finish_101 : decode b_MO_finish 101 = .ok (.bipush (-106), 2) := by decide +kernel
theorem d_MO_finish_103 : decode b_MO_finish 103 = .ok (.ireturn, 1) := by decide +kernel
theorem d_MO_finish_104 : decode b_MO_finish 104 = .ok (.iinc 2 16, 3) := by decide +kernel
theorem d_MO_finish_107 : decode b_MO_finish 107 = .ok (.goto (-30), 3) := by decide +kernel
theorem d_MO_finish_110 : decode b_MO_finish 110 = .ok (.aload_n 0, 1) := by decide +kernel
theorem d_MO_finish_111 : decode b_MO_finish 111 = .ok (.bipush (-2), 2) := by decide +kernel
theorem d_MO_finish_113 : decode b_MO_finish 113 = .ok (.iload_n 1, 1) := by decide +kernel
theorem d_MO_finish_114 : decode b_MO_finish 114 = .ok (.iconst 3, 1) := by decide +kernel
theorem d_MO_finish_115 : decode b_MO_finish 115 = .ok (.bipush (-2), 2) := by decide +kernel
theorem d_MO_finish_117 : decode b_MO_finish 117 = .ok (.ldc2_w 116, 3) := by decide +kernel
theorem d_MO_finish_120 : decode b_MO_finish 120 = .ok (.invokevirtual 165, 3) := by decide +kernel
theorem d_MO_finish_123 : decode b_MO_finish 123 = .ok (.ifCond .ne 6, 3) := by decide +kernel
theorem d_MO_finish_126 : decode b_MO_finish 126 = .ok (.bipush (-106), 2) := by decide +kernel
theorem d_MO_finish_128 : decode b_MO_finish 128 = .ok (.ireturn, 1) := by decide +kernel
theorem d_MO_finish_129 : decode b_MO_finish 129 = .ok (.aload_n 0, 1) := by decide +kernel
theorem d_MO_finish_130 : decode b_MO_finish 130 = .ok (.iconst (-1), 1) := by decide +kernel
theorem d_MO_finish_131 : decode b_MO_finish 131 = .ok (.putfield 26, 3) := by decide +kernel
theorem d_MO_finish_134 : decode b_MO_finish 134 = .ok (.aload_n 0, 1) := by decide +kernel
theorem d_MO_finish_135 : decode b_MO_finish 135 = .ok (.getfield 29, 3) := by decide +kernel
theorem d_MO_finish_138 : decode b_MO_finish 138 = .ok (.bipush 6, 2) := by decide +kernel
theorem d_MO_finish_140 : decode b_MO_finish 140 = .ok (.dup2, 1) := by decide +kernel
theorem d_MO_finish_141 : decode b_MO_finish 141 = .ok (.iaload, 1) := by decide +kernel
theorem d_MO_finish_142 : decode b_MO_finish 142 = .ok (.iconst 1, 1) := by decide +kernel
theorem d_MO_finish_143 : decode b_MO_finish 143 = .ok (.iadd, 1) := by decide +kernel
theorem d_MO_finish_144 : decode b_MO_finish 144 = .ok (.iastore, 1) := by decide +kernel
theorem d_MO_finish_145 : decode b_MO_finish 145 = .ok (.iload_n 1, 1) := by decide +kernel
theorem d_MO_finish_146 : decode b_MO_finish 146 = .ok (.ireturn, 1) := by decide +kernel
theorem d_MO_booted_0 : decode b_MO_booted 0 = .ok (.aload_n 0, 1) := by decide +kernel
theorem d_MO_booted_1 : decode b_MO_booted 1 = .ok (.getfield 29, 3) := by decide +kernel
theorem d_MO_booted_4 : decode b_MO_booted 4 = .ok (.iconst 3, 1) := by decide +kernel
theorem d_MO_booted_5 : decode b_MO_booted 5 = .ok (.dup2, 1) := by decide +kernel
theorem d_MO_booted_6 : decode b_MO_booted 6 = .ok (.iaload, 1) := by decide +kernel
theorem d_MO_booted_7 : decode b_MO_booted 7 = .ok (.iconst 1, 1) := by decide +kernel
theorem d_MO_booted_8 : decode b_MO_booted 8 = .ok (.iadd, 1) := by decide +kernel
theorem d_MO_booted_9 : decode b_MO_booted 9 = .ok (.iastore, 1) := by decide +kernel
theorem d_MO_booted_10 : decode b_MO_booted 10 = .ok (.aload_n 0, 1) := by decide +kernel
theorem d_MO_booted_11 : decode b_MO_booted 11 = .ok (.iconst (-1), 1) := by decide +kernel
theorem d_MO_booted_12 : decode b_MO_booted 12 = .ok (.putfield 26, 3) := by decide +kernel
theorem d_MO_booted_15 : decode b_MO_booted 15 = .ok (.aload_n 0, 1) := by decide +kernel
theorem d_MO_booted_16 : decode b_MO_booted 16 = .ok (.iconst (-1), 1) := by decide +kernel
theorem d_MO_booted_17 : decode b_MO_booted 17 = .ok (.putfield 17, 3) := by decide +kernel
theorem d_MO_booted_20 : decode b_MO_booted 20 = .ok (.aload_n 0, 1) := by decide +kernel
theorem d_MO_booted_21 : decode b_MO_booted 21 = .ok (.iconst 0, 1) := by decide +kernel
theorem d_MO_booted_22 : decode b_MO_booted 22 = .ok (.putfield 104, 3) := by decide +kernel
theorem d_MO_booted_25 : decode b_MO_booted 25 = .ok (.aload_n 0, 1) := by decide +kernel
theorem d_MO_booted_26 : decode b_MO_booted 26 = .ok (.invokevirtual 80, 3) := by decide +kernel
theorem d_MO_booted_29 : decode b_MO_booted 29 = .ok (.istore_n 1, 1) := by decide +kernel
theorem d_MO_booted_30 : decode b_MO_booted 30 = .ok (.iload_n 1, 1) := by decide +kernel
theorem d_MO_booted_31 : decode b_MO_booted 31 = .ok (.iconst (-1), 1) := by decide +kernel
theorem d_MO_booted_32 : decode b_MO_booted 32 = .ok (.if_icmp .ne 5, 3) := by decide +kernel
theorem d_MO_booted_35 : decode b_MO_booted 35 = .ok (.iconst 1, 1) := by decide +kernel
theorem d_MO_booted_36 : decode b_MO_booted 36 = .ok (.ireturn, 1) := by decide +kernel
theorem d_MO_booted_37 : decode b_MO_booted 37 = .ok (.aload_n 0, 1) := by decide +kernel
theorem d_MO_booted_38 : decode b_MO_booted 38 = .ok (.getfield 7, 3) := by decide +kernel
theorem d_MO_booted_41 : decode b_MO_booted 41 = .ok (.iload_n 1, 1) := by decide +kernel
theorem d_MO_booted_42 : decode b_MO_booted 42 = .ok (.iconst 5, 1) := by decide +kernel
theorem d_MO_booted_43 : decode b_MO_booted 43 = .ok (.iadd, 1) := by decide +kernel
theorem d_MO_booted_44 : decode b_MO_booted 44 = .ok (.iaload, 1) := by decide +kernel
theorem d_MO_booted_45 : decode b_MO_booted 45 = .ok (.istore_n 2, 1) := by decide +kernel
theorem d_MO_booted_46 : decode b_MO_booted 46 = .ok (.aload_n 0, 1) := by decide +kernel
theorem d_MO_booted_47 : decode b_MO_booted 47 = .ok (.getfield 7, 3) := by decide +kernel
theorem d_MO_booted_50 : decode b_MO_booted 50 = .ok (.iload_n 1, 1) := by decide +kernel
theorem d_MO_booted_51 : decode b_MO_booted 51 = .ok (.bipush 6, 2) := by decide +kernel
theorem d_MO_booted_53 : decode b_MO_booted 53 = .ok (.iadd, 1) := by decide +kernel
theorem d_MO_booted_54 : decode b_MO_booted 54 = .ok (.iaload, 1) := by decide +kernel
theorem d_MO_booted_55 : decode b_MO_booted 55 = .ok (.istore_n 3, 1) := by decide +kernel
theorem d_MO_booted_56 : decode b_MO_booted 56 = .ok (.aload_n 0, 1) := by decide +kernel
theorem d_MO_booted_57 : decode b_MO_booted 57 = .ok (.iload_n 2, 1) := by decide +kernel
theorem d_MO_booted_58 : decode b_MO_booted 58 = .ok (.invokevirtual 169, 3) := by decide +kernel
theorem d_MO_booted_61 : decode b_MO_booted 61 = .ok (.ifCond .eq 51, 3) := by decide +kernel
theorem d_MO_booted_64 : decode b_MO_booted 64 = .ok (.iload_n 3, 1) := by decide +kernel
theorem d_MO_booted_65 : decode b_MO_booted 65 = .ok (.ifCond .le 47, 3) := by decide +kernel
theorem d_MO_booted_68 : decode b_MO_booted 68 = .ok (.aload_n 0, 1) := by decide +kernel
theorem d_MO_booted_69 : decode b_MO_booted 69 = .ok (.bipush (-2), 2) := by decide +kernel
theorem d_MO_booted_71 : decode b_MO_booted 71 = .ok (.bipush (-2), 2) := by decide +kernel
theorem d_MO_booted_73 : decode b_MO_booted 73 = .ok (.iload_n 3, 1) := by decide +kernel
theorem d_MO_booted_74 : decode b_MO_booted 74 = .ok (.iconst 1, 1) := by decide +kernel
theorem d_MO_booted_75 : decode b_MO_booted 75 = .ok (.isub, 1) := by decide +kernel
theorem d_MO_booted_76 : decode b_MO_booted 76 = .ok (.bipush (-2), 2) := by decide +kernel
theorem d_MO_booted_78 : decode b_MO_booted 78 = .ok (.ldc2_w 116, 3) := by decide +kernel
theorem d_MO_booted_81 : decode b_MO_booted 81 = .ok (.invokevirtual 165, 3) := by decide +kernel
theorem d_MO_booted_84 : decode b_MO_booted 84 = .ok (.ifCond .ne 5, 3) := by decide +kernel
theorem d_MO_booted_87 : decode b_MO_booted 87 = .ok (.iconst 0, 1) := by decide +kernel
theorem d_MO_booted_88 : decode b_MO_booted 88 = .ok (.ireturn, 1) := by decide +kernel
theorem d_MO_booted_89 : decode b_MO_booted 89 = .ok (.aload_n 0, 1) := by decide +kernel
theorem d_MO_booted_90 : decode b_MO_booted 90 = .ok (.iload_n 2, 1) := by decide +kernel
theorem d_MO_booted_91 : decode b_MO_booted 91 = .ok (.putfield 17, 3) := by decide +kernel
theorem d_MO_booted_94 : decode b_MO_booted 94 = .ok (.aload_n 0, 1) := by decide +kernel
theorem d_MO_booted_95 : decode b_MO_booted 95 = .ok (.bipush 20, 2) := by decide +kernel
theorem d_MO_booted_97 : decode b_MO_booted 97 = .ok (.putfield 104, 3) := by decide +kernel
theorem d_MO_booted_100 : decode b_MO_booted 100 = .ok (.aload_n 0, 1) := by decide +kernel
theorem d_MO_booted_101 : decode b_MO_booted 101 = .ok (.getfield 29, 3) := by decide +kernel
theorem d_MO_booted_104 : decode b_MO_booted 104 = .ok (.iconst 4, 1) := by decide +kernel
theorem d_MO_booted_105 : decode b_MO_booted 105 = .ok (.dup2, 1) := by decide +kernel
theorem d_MO_booted_106 : decode b_MO_booted 106 = .ok (.iaload, 1) := by decide +kernel
theorem d_MO_booted_107 : decode b_MO_booted 107 = .ok (.iconst 1, 1) := by decide +kernel
theorem d_MO_booted_108 : decode b_MO_booted 108 = .ok (.iadd, 1) := by decide +kernel
theorem d_MO_booted_109 : decode b_MO_booted 109 = .ok (.iastore, 1) := by decide +kernel
theorem d_MO_booted_110 : decode b_MO_booted 110 = .ok (.iconst 1, 1) := by decide +kernel
theorem d_MO_booted_111 : decode b_MO_booted 111 = .ok (.ireturn, 1) := by decide +kernel
theorem d_MO_booted_112 : decode b_MO_booted 112 = .ok (.iload_n 2, 1) := by decide +kernel
theorem d_MO_booted_113 : decode b_MO_booted 113 = .ok (.sipush 255, 3) := by decide +kernel
theorem d_MO_booted_116 : decode b_MO_booted 116 = .ok (.if_icmp .eq 23, 3) := by decide +kernel
theorem d_MO_booted_119 : decode b_MO_booted 119 = .ok (.aload_n 0, 1) := by decide +kernel
theorem d_MO_booted_120 : decode b_MO_booted 120 = .ok (.bipush (-2), 2) := by decide +kernel
theorem d_MO_booted_122 : decode b_MO_booted 122 = .ok (.sipush 255, 3) := by decide +kernel
theorem d_MO_booted_125 : decode b_MO_booted 125 = .ok (.iconst 0, 1) := by decide +kernel
theorem d_MO_booted_126 : decode b_MO_booted 126 = .ok (.bipush (-2), 2) := by decide +kernel
theorem d_MO_booted_128 : decode b_MO_booted 128 = .ok (.ldc2_w 116, 3) := by decide +kernel
theorem d_MO_booted_131 : decode b_MO_booted 131 = .ok (.invokevirtual 165, 3) := by decide +kernel
theorem d_MO_booted_134 : decode b_MO_booted 134 = .ok (.ifCond .ne 5, 3) := by decide +kernel
theorem d_MO_booted_137 : decode b_MO_booted 137 = .ok (.iconst 0, 1) := by decide +kernel
theorem d_MO_booted_138 : decode b_MO_booted 138 = .ok (.ireturn, 1) := by decide +kernel
theorem d_MO_booted_139 : decode b_MO_booted 139 = .ok (.aload_n 0, 1) := by decide +kernel
theorem d_MO_booted_140 : decode b_MO_booted 140 = .ok (.invokevirtual 153, 3) := by decide +kernel
theorem d_MO_booted_143 : decode b_MO_booted 143 = .ok (.istore 4, 2) := by decide +kernel
theorem d_MO_booted_145 : decode b_MO_booted 145 = .ok (.aload_n 0, 1) := by decide +kernel
theorem d_MO_booted_146 : decode b_MO_booted 146 = .ok (.iload 4, 2) := by decide +kernel
theorem d_MO_booted_148 : decode b_MO_booted 148 = .ok (.invokevirtual 169, 3) := by decide +kernel
theorem d_MO_booted_151 : decode b_MO_booted 151 = .ok (.ifCond .eq 12, 3) := by decide +kernel
theorem d_MO_booted_154 : decode b_MO_booted 154 = .ok (.aload_n 0, 1) := by decide +kernel
theorem d_MO_booted_155 : decode b_MO_booted 155 = .ok (.iload 4, 2) := by decide +kernel
theorem d_MO_booted_157 : decode b_MO_booted 157 = .ok (.putfield 17, 3) := by decide +kernel
theorem d_MO_booted_160 : decode b_MO_booted 160 = .ok (.goto 47, 3) := by decide +kernel
theorem d_MO_booted_163 : decode b_MO_booted 163 = .ok (.aload_n 0, 1) := by decide +kernel
theorem d_MO_booted_164 : decode b_MO_booted 164 = .ok (.iload 4, 2) := by decide +kernel
theorem d_MO_booted_166 : decode b_MO_booted 166 = .ok (.invokestatic 156, 3) := by decide +kernel
theorem d_MO_booted_169 : decode b_MO_booted 169 = .ok (.invokevirtual 169, 3) := by decide +kernel
theorem d_MO_booted_172 : decode b_MO_booted 172 = .ok (.ifCond .eq 35, 3) := by decide +kernel
theorem d_MO_booted_175 : decode b_MO_booted 175 = .ok (.aload_n 0, 1) := by decide +kernel
theorem d_MO_booted_176 : decode b_MO_booted 176 = .ok (.iload 4, 2) := by decide +kernel
theorem d_MO_booted_178 : decode b_MO_booted 178 = .ok (.invokestatic 156, 3) := by decide +kernel
theorem d_MO_booted_181 : decode b_MO_booted 181 = .ok (.bipush (-2), 2) := by decide +kernel
theorem d_MO_booted_183 : decode b_MO_booted 183 = .ok (.bipush (-2), 2) := by decide +kernel
theorem d_MO_booted_185 : decode b_MO_booted 185 = .ok (.bipush (-2), 2) := by decide +kernel
theorem d_MO_booted_187 : decode b_MO_booted 187 = .ok (.ldc2_w 116, 3) := by decide +kernel
theorem d_MO_booted_190 : decode b_MO_booted 190 = .ok (.invokevirtual 165, 3) := by decide +kernel
theorem d_MO_booted_193 : decode b_MO_booted 193 = .ok (.ifCond .ne 5, 3) := by decide +kernel
theorem d_MO_booted_196 : decode b_MO_booted 196 = .ok (.iconst 0, 1) := by decide +kernel
theorem d_MO_booted_197 : decode b_MO_booted 197 = .ok (.ireturn, 1) := by decide +kernel
theorem d_MO_booted_198 : decode b_MO_booted 198 = .ok (.aload_n 0, 1) := by decide +kernel
theorem d_MO_booted_199 : decode b_MO_booted 199 = .ok (.iload 4, 2) := by decide +kernel
theorem d_MO_booted_201 : decode b_MO_booted 201 = .ok (.invokestatic 156, 3) := by decide +kernel
theorem d_MO_booted_204 : decode b_MO_booted 204 = .ok (.putfield 17, 3) := by decide +kernel
theorem d_MO_booted_207 : decode b_MO_booted 207 = .ok (.iconst 1, 1) := by decide +kernel
theorem d_MO_booted_208 : decode b_MO_booted 208 = .ok (.ireturn, 1) := by decide +kernel
theorem d_MO_boot_0 : decode b_MO_boot 0 = .ok (.aload_n 0, 1) := by decide +kernel
theorem d_MO_boot_1 : decode b_MO_boot 1 = .ok (.getfield 100, 3) := by decide +kernel
theorem d_MO_boot_4 : decode b_MO_boot 4 = .ok (.ifCond .eq 6, 3) := by decide +kernel
theorem d_MO_boot_7 : decode b_MO_boot 7 = .ok (.bipush (-100), 2) := by decide +kernel
theorem d_MO_boot_9 : decode b_MO_boot 9 = .ok (.ireturn, 1) := by decide +kernel
theorem d_MO_boot_10 : decode b_MO_boot 10 = .ok (.aload_n 0, 1) := by decide +kernel
theorem d_MO_boot_11 : decode b_MO_boot 11 = .ok (.invokevirtual 172, 3) := by decide +kernel
theorem d_MO_boot_14 : decode b_MO_boot 14 = .ok (.ifCond .eq 10, 3) := by decide +kernel
theorem d_MO_boot_17 : decode b_MO_boot 17 = .ok (.aload_n 0, 1) := by decide +kernel
theorem d_MO_boot_18 : decode b_MO_boot 18 = .ok (.getfield 17, 3) := by decide +kernel
theorem d_MO_boot_21 : decode b_MO_boot 21 = .ok (.goto 5, 3) := by decide +kernel
theorem d_MO_boot_24 : decode b_MO_boot 24 = .ok (.bipush (-106), 2) := by decide +kernel
theorem d_MO_boot_26 : decode b_MO_boot 26 = .ok (.ireturn, 1) := by decide +kernel
theorem d_MO_confirm_0 : decode b_MO_confirm 0 = .ok (.aload_n 0, 1) := by decide +kernel
theorem d_MO_confirm_1 : decode b_MO_confirm 1 = .ok (.getfield 100, 3) := by decide +kernel
theorem d_MO_confirm_4 : decode b_MO_confirm 4 = .ok (.ifCond .eq 6, 3) := by decide +kernel
theorem d_MO_confirm_7 : decode b_MO_confirm 7 = .ok (.bipush (-100), 2) := by decide +kernel
theorem d_MO_confirm_9 : decode b_MO_confirm 9 = .ok (.ireturn, 1) := by decide +kernel
theorem d_MO_confirm_10 : decode b_MO_confirm 10 = .ok (.aload_n 0, 1) := by decide +kernel
theorem d_MO_confirm_11 : decode b_MO_confirm 11 = .ok (.invokevirtual 149, 3) := by decide +kernel
theorem d_MO_confirm_14 : decode b_MO_confirm 14 = .ok (.ifCond .eq 11, 3) := by decide +kernel
theorem d_MO_confirm_17 : decode b_MO_confirm 17 = .ok (.aload_n 0, 1) := by decide +kernel
theorem d_MO_confirm_18 : decode b_MO_confirm 18 = .ok (.invokevirtual 80, 3) := by decide +kernel
theorem d_MO_confirm_21 : decode b_MO_confirm 21 = .ok (.iconst (-1), 1) := by decide +kernel
theorem d_MO_confirm_22 : decode b_MO_confirm 22 = .ok (.if_icmp .ne 6, 3) := by decide +kernel
theorem d_MO_confirm_25 : decode b_MO_confirm 25 = .ok (.bipush (-103), 2) := by decide +kernel
theorem d_MO_confirm_27 : decode b_MO_confirm 27 = .ok (.ireturn, 1) := by decide +kernel
theorem d_MO_confirm_28 : decode b_MO_confirm 28 = .ok (.aload_n 0, 1) := by decide +kernel
theorem d_MO_confirm_29 : decode b_MO_confirm 29 = .ok (.aload_n 0, 1) := by decide +kernel
theorem d_MO_confirm_30 : decode b_MO_confirm 30 = .ok (.getfield 7, 3) := by decide +kernel
theorem d_MO_confirm_33 : decode b_MO_confirm 33 = .ok (.aload_n 0, 1) := by decide +kernel
theorem d_MO_confirm_34 : decode b_MO_confirm 34 = .ok (.getfield 17, 3) := by decide +kernel
