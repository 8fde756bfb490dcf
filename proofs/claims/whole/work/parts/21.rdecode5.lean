theorem d_MO_confirm_37 : decode b_MO_confirm 37 = .ok (.invokestatic 84, 3) := by decide +kernel
theorem d_MO_confirm_40 : decode b_MO_confirm 40 = .ok (.iconst 4, 1) := by decide +kernel
theorem d_MO_confirm_41 : decode b_MO_confirm 41 = .ok (.iadd, 1) := by decide +kernel
theorem d_MO_confirm_42 : decode b_MO_confirm 42 = .ok (.iconst 4, 1) := by decide +kernel
theorem d_MO_confirm_43 : decode b_MO_confirm 43 = .ok (.invokevirtual 68, 3) := by decide +kernel
theorem d_MO_confirm_46 : decode b_MO_confirm 46 = .ok (.lstore_n 1, 1) := by decide +kernel
theorem d_MO_confirm_47 : decode b_MO_confirm 47 = .ok (.lload_n 1, 1) := by decide +kernel
theorem d_MO_confirm_48 : decode b_MO_confirm 48 = .ok (.aload_n 0, 1) := by decide +kernel
theorem d_MO_confirm_49 : decode b_MO_confirm 49 = .ok (.invokevirtual 92, 3) := by decide +kernel
theorem d_MO_confirm_52 : decode b_MO_confirm 52 = .ok (.lcmp, 1) := by decide +kernel
theorem d_MO_confirm_53 : decode b_MO_confirm 53 = .ok (.ifCond .le 7, 3) := by decide +kernel
theorem d_MO_confirm_56 : decode b_MO_confirm 56 = .ok (.lload_n 1, 1) := by decide +kernel
theorem d_MO_confirm_57 : decode b_MO_confirm 57 = .ok (.goto 7, 3) := by decide +kernel
theorem d_MO_confirm_60 : decode b_MO_confirm 60 = .ok (.aload_n 0, 1) := by decide +kernel
theorem d_MO_confirm_61 : decode b_MO_confirm 61 = .ok (.invokevirtual 92, 3) := by decide +kernel
theorem d_MO_confirm_64 : decode b_MO_confirm 64 = .ok (.lstore_n 3, 1) := by decide +kernel
theorem d_MO_confirm_65 : decode b_MO_confirm 65 = .ok (.aload_n 0, 1) := by decide +kernel
theorem d_MO_confirm_66 : decode b_MO_confirm 66 = .ok (.aload_n 0, 1) := by decide +kernel
theorem d_MO_confirm_67 : decode b_MO_confirm 67 = .ok (.getfield 17, 3) := by decide +kernel
theorem d_MO_confirm_70 : decode b_MO_confirm 70 = .ok (.sipush 255, 3) := by decide +kernel
theorem d_MO_confirm_73 : decode b_MO_confirm 73 = .ok (.iconst 0, 1) := by decide +kernel
theorem d_MO_confirm_74 : decode b_MO_confirm 74 = .ok (.bipush (-2), 2) := by decide +kernel
theorem d_MO_confirm_76 : decode b_MO_confirm 76 = .ok (.lload_n 3, 1) := by decide +kernel
theorem d_MO_confirm_77 : decode b_MO_confirm 77 = .ok (.invokevirtual 165, 3) := by decide +kernel
theorem d_MO_confirm_80 : decode b_MO_confirm 80 = .ok (.ifCond .ne 6, 3) := by decide +kernel
theorem d_MO_confirm_83 : decode b_MO_confirm 83 = .ok (.bipush (-106), 2) := by decide +kernel
theorem d_MO_confirm_85 : decode b_MO_confirm 85 = .ok (.ireturn, 1) := by decide +kernel
theorem d_MO_confirm_86 : decode b_MO_confirm 86 = .ok (.aload_n 0, 1) := by decide +kernel
theorem d_MO_confirm_87 : decode b_MO_confirm 87 = .ok (.iconst 0, 1) := by decide +kernel
theorem d_MO_confirm_88 : decode b_MO_confirm 88 = .ok (.putfield 104, 3) := by decide +kernel
theorem d_MO_confirm_91 : decode b_MO_confirm 91 = .ok (.aload_n 0, 1) := by decide +kernel
theorem d_MO_confirm_92 : decode b_MO_confirm 92 = .ok (.invokevirtual 92, 3) := by decide +kernel
theorem d_MO_confirm_95 : decode b_MO_confirm 95 = .ok (.l2i, 1) := by decide +kernel
theorem d_MO_confirm_96 : decode b_MO_confirm 96 = .ok (.ireturn, 1) := by decide +kernel
theorem d_MO_tick_0 : decode b_MO_tick 0 = .ok (.aload_n 0, 1) := by decide +kernel
theorem d_MO_tick_1 : decode b_MO_tick 1 = .ok (.getfield 100, 3) := by decide +kernel
theorem d_MO_tick_4 : decode b_MO_tick 4 = .ok (.ifCond .eq 6, 3) := by decide +kernel
theorem d_MO_tick_7 : decode b_MO_tick 7 = .ok (.bipush (-100), 2) := by decide +kernel
theorem d_MO_tick_9 : decode b_MO_tick 9 = .ok (.ireturn, 1) := by decide +kernel
theorem d_MO_tick_10 : decode b_MO_tick 10 = .ok (.iload_n 1, 1) := by decide +kernel
theorem d_MO_tick_11 : decode b_MO_tick 11 = .ok (.i2l, 1) := by decide +kernel
theorem d_MO_tick_12 : decode b_MO_tick 12 = .ok (.lconst 1, 1) := by decide +kernel
theorem d_MO_tick_13 : decode b_MO_tick 13 = .ok (.ldc2_w 175, 3) := by decide +kernel
theorem d_MO_tick_16 : decode b_MO_tick 16 = .ok (.invokestatic 76, 3) := by decide +kernel
theorem d_MO_tick_19 : decode b_MO_tick 19 = .ok (.ifCond .ne 6, 3) := by decide +kernel
theorem d_MO_tick_22 : decode b_MO_tick 22 = .ok (.bipush (-102), 2) := by decide +kernel
theorem d_MO_tick_24 : decode b_MO_tick 24 = .ok (.ireturn, 1) := by decide +kernel
theorem d_MO_tick_25 : decode b_MO_tick 25 = .ok (.iconst 0, 1) := by decide +kernel
theorem d_MO_tick_26 : decode b_MO_tick 26 = .ok (.istore_n 2, 1) := by decide +kernel
theorem d_MO_tick_27 : decode b_MO_tick 27 = .ok (.iconst 0, 1) := by decide +kernel
theorem d_MO_tick_28 : decode b_MO_tick 28 = .ok (.istore_n 3, 1) := by decide +kernel
theorem d_MO_tick_29 : decode b_MO_tick 29 = .ok (.iload_n 3, 1) := by decide +kernel
theorem d_MO_tick_30 : decode b_MO_tick 30 = .ok (.iload_n 1, 1) := by decide +kernel
theorem d_MO_tick_31 : decode b_MO_tick 31 = .ok (.if_icmp .ge 56, 3) := by decide +kernel
theorem d_MO_tick_34 : decode b_MO_tick 34 = .ok (.aload_n 0, 1) := by decide +kernel
theorem d_MO_tick_35 : decode b_MO_tick 35 = .ok (.invokevirtual 149, 3) := by decide +kernel
theorem d_MO_tick_38 : decode b_MO_tick 38 = .ok (.ifCond .eq 43, 3) := by decide +kernel
theorem d_MO_tick_41 : decode b_MO_tick 41 = .ok (.aload_n 0, 1) := by decide +kernel
theorem d_MO_tick_42 : decode b_MO_tick 42 = .ok (.dup, 1) := by decide +kernel
theorem d_MO_tick_43 : decode b_MO_tick 43 = .ok (.getfield 104, 3) := by decide +kernel
theorem d_MO_tick_46 : decode b_MO_tick 46 = .ok (.iconst 1, 1) := by decide +kernel
theorem d_MO_tick_47 : decode b_MO_tick 47 = .ok (.isub, 1) := by decide +kernel
theorem d_MO_tick_48 : decode b_MO_tick 48 = .ok (.putfield 104, 3) := by decide +kernel
theorem d_MO_tick_51 : decode b_MO_tick 51 = .ok (.aload_n 0, 1) := by decide +kernel
theorem d_MO_tick_52 : decode b_MO_tick 52 = .ok (.getfield 104, 3) := by decide +kernel
theorem d_MO_tick_55 : decode b_MO_tick 55 = .ok (.ifCond .ne 26, 3) := by decide +kernel
theorem d_MO_tick_58 : decode b_MO_tick 58 = .ok (.aload_n 0, 1) := by decide +kernel
theorem d_MO_tick_59 : decode b_MO_tick 59 = .ok (.getfield 29, 3) := by decide +kernel
theorem d_MO_tick_62 : decode b_MO_tick 62 = .ok (.iconst 5, 1) := by decide +kernel
theorem d_MO_tick_63 : decode b_MO_tick 63 = .ok (.dup2, 1) := by decide +kernel
theorem d_MO_tick_64 : decode b_MO_tick 64 = .ok (.iaload, 1) := by decide +kernel
theorem d_MO_tick_65 : decode b_MO_tick 65 = .ok (.iconst 1, 1) := by decide +kernel
theorem d_MO_tick_66 : decode b_MO_tick 66 = .ok (.iadd, 1) := by decide +kernel
theorem d_MO_tick_67 : decode b_MO_tick 67 = .ok (.iastore, 1) := by decide +kernel
theorem d_MO_tick_68 : decode b_MO_tick 68 = .ok (.iinc 2 1, 3) := by decide +kernel
theorem d_MO_tick_71 : decode b_MO_tick 71 = .ok (.aload_n 0, 1) := by decide +kernel
theorem d_MO_tick_72 : decode b_MO_tick 72 = .ok (.invokevirtual 172, 3) := by decide +kernel
theorem d_MO_tick_75 : decode b_MO_tick 75 = .ok (.ifCond .ne 6, 3) := by decide +kernel
theorem d_MO_tick_78 : decode b_MO_tick 78 = .ok (.bipush (-106), 2) := by decide +kernel
theorem d_MO_tick_80 : decode b_MO_tick 80 = .ok (.ireturn, 1) := by decide +kernel
theorem d_MO_tick_81 : decode b_MO_tick 81 = .ok (.iinc 3 1, 3) := by decide +kernel
theorem d_MO_tick_84 : decode b_MO_tick 84 = .ok (.goto (-55), 3) := by decide +kernel
theorem d_MO_tick_87 : decode b_MO_tick 87 = .ok (.iload_n 2, 1) := by decide +kernel
theorem d_MO_tick_88 : decode b_MO_tick 88 = .ok (.ireturn, 1) := by decide +kernel
theorem d_MO_revoke_0 : decode b_MO_revoke 0 = .ok (.aload_n 0, 1) := by decide +kernel
theorem d_MO_revoke_1 : decode b_MO_revoke 1 = .ok (.getfield 100, 3) := by decide +kernel
theorem d_MO_revoke_4 : decode b_MO_revoke 4 = .ok (.ifCond .eq 6, 3) := by decide +kernel
theorem d_MO_revoke_7 : decode b_MO_revoke 7 = .ok (.bipush (-100), 2) := by decide +kernel
theorem d_MO_revoke_9 : decode b_MO_revoke 9 = .ok (.ireturn, 1) := by decide +kernel
theorem d_MO_revoke_10 : decode b_MO_revoke 10 = .ok (.iload_n 1, 1) := by decide +kernel
theorem d_MO_revoke_11 : decode b_MO_revoke 11 = .ok (.i2l, 1) := by decide +kernel
theorem d_MO_revoke_12 : decode b_MO_revoke 12 = .ok (.lconst 0, 1) := by decide +kernel
theorem d_MO_revoke_13 : decode b_MO_revoke 13 = .ok (.ldc2_w 129, 3) := by decide +kernel
theorem d_MO_revoke_16 : decode b_MO_revoke 16 = .ok (.invokestatic 76, 3) := by decide +kernel
theorem d_MO_revoke_19 : decode b_MO_revoke 19 = .ok (.ifCond .ne 6, 3) := by decide +kernel
theorem d_MO_revoke_22 : decode b_MO_revoke 22 = .ok (.bipush (-101), 2) := by decide +kernel
theorem d_MO_revoke_24 : decode b_MO_revoke 24 = .ok (.ireturn, 1) := by decide +kernel
theorem d_MO_revoke_25 : decode b_MO_revoke 25 = .ok (.aload_n 0, 1) := by decide +kernel
theorem d_MO_revoke_26 : decode b_MO_revoke 26 = .ok (.invokevirtual 80, 3) := by decide +kernel
theorem d_MO_revoke_29 : decode b_MO_revoke 29 = .ok (.istore_n 2, 1) := by decide +kernel
theorem d_MO_revoke_30 : decode b_MO_revoke 30 = .ok (.aload_n 0, 1) := by decide +kernel
theorem d_MO_revoke_31 : decode b_MO_revoke 31 = .ok (.getfield 17, 3) := by decide +kernel
theorem d_MO_revoke_34 : decode b_MO_revoke 34 = .ok (.iconst (-1), 1) := by decide +kernel
theorem d_MO_revoke_35 : decode b_MO_revoke 35 = .ok (.if_icmp .eq 56, 3) := by decide +kernel
theorem d_MO_revoke_38 : decode b_MO_revoke 38 = .ok (.aload_n 0, 1) := by decide +kernel
theorem d_MO_revoke_39 : decode b_MO_revoke 39 = .ok (.invokevirtual 149, 3) := by decide +kernel
theorem d_MO_revoke_42 : decode b_MO_revoke 42 = .ok (.ifCond .ne 49, 3) := by decide +kernel
theorem d_MO_revoke_45 : decode b_MO_revoke 45 = .ok (.aload_n 0, 1) := by decide +kernel
theorem d_MO_revoke_46 : decode b_MO_revoke 46 = .ok (.getfield 26, 3) := by decide +kernel
theorem d_MO_revoke_49 : decode b_MO_revoke 49 = .ok (.iconst (-1), 1) := by decide +kernel
theorem d_MO_revoke_50 : decode b_MO_revoke 50 = .ok (.if_icmp .ne 41, 3) := by decide +kernel
theorem d_MO_revoke_53 : decode b_MO_revoke 53 = .ok (.iload_n 2, 1) := by decide +kernel
theorem d_MO_revoke_54 : decode b_MO_revoke 54 = .ok (.iconst (-1), 1) := by decide +kernel
theorem d_MO_revoke_55 : decode b_MO_revoke 55 = .ok (.if_icmp .eq 36, 3) := by decide +kernel
theorem d_MO_revoke_58 : decode b_MO_revoke 58 = .ok (.aload_n 0, 1) := by decide +kernel
theorem d_MO_revoke_59 : decode b_MO_revoke 59 = .ok (.getfield 7, 3) := by decide +kernel
theorem d_MO_revoke_62 : decode b_MO_revoke 62 = .ok (.iload_n 2, 1) := by decide +kernel
theorem d_MO_revoke_63 : decode b_MO_revoke 63 = .ok (.iconst 5, 1) := by decide +kernel
theorem d_MO_revoke_64 : decode b_MO_revoke 64 = .ok (.iadd, 1) := by decide +kernel
theorem d_MO_revoke_65 : decode b_MO_revoke 65 = .ok (.iaload, 1) := by decide +kernel
theorem d_MO_revoke_66 : decode b_MO_revoke 66 = .ok (.sipush 255, 3) := by decide +kernel
theorem d_MO_revoke_69 : decode b_MO_revoke 69 = .ok (.if_icmp .ne 22, 3) := by decide +kernel
theorem d_MO_revoke_72 : decode b_MO_revoke 72 = .ok (.aload_n 0, 1) := by decide +kernel
theorem d_MO_revoke_73 : decode b_MO_revoke 73 = .ok (.getfield 7, 3) := by decide +kernel
theorem d_MO_revoke_76 : decode b_MO_revoke 76 = .ok (.aload_n 0, 1) := by decide +kernel
theorem d_MO_revoke_77 : decode b_MO_revoke 77 = .ok (.getfield 17, 3) := by decide +kernel
theorem d_MO_revoke_80 : decode b_MO_revoke 80 = .ok (.invokestatic 84, 3) := by decide +kernel
theorem d_MO_revoke_83 : decode b_MO_revoke 83 = .ok (.bipush 12, 2) := by decide +kernel
theorem d_MO_revoke_85 : decode b_MO_revoke 85 = .ok (.iadd, 1) := by decide +kernel
theorem d_MO_revoke_86 : decode b_MO_revoke 86 = .ok (.iaload, 1) := by decide +kernel
theorem d_MO_revoke_87 : decode b_MO_revoke 87 = .ok (.iload_n 1, 1) := by decide +kernel
theorem d_MO_revoke_88 : decode b_MO_revoke 88 = .ok (.if_icmp .ne 6, 3) := by decide +kernel
theorem d_MO_revoke_91 : decode b_MO_revoke 91 = .ok (.bipush (-103), 2) := by decide +kernel
theorem d_MO_revoke_93 : decode b_MO_revoke 93 = .ok (.ireturn, 1) := by decide +kernel
theorem d_MO_revoke_94 : decode b_MO_revoke 94 = .ok (.aload_n 0, 1) := by decide +kernel
theorem d_MO_revoke_95 : decode b_MO_revoke 95 = .ok (.getfield 7, 3) := by decide +kernel
theorem d_MO_revoke_98 : decode b_MO_revoke 98 = .ok (.iload_n 2, 1) := by decide +kernel
theorem d_MO_revoke_99 : decode b_MO_revoke 99 = .ok (.bipush 7, 2) := by decide +kernel
theorem d_MO_revoke_101 : decode b_MO_revoke 101 = .ok (.iadd, 1) := by decide +kernel
theorem d_MO_revoke_102 : decode b_MO_revoke 102 = .ok (.iaload, 1) := by decide +kernel
theorem d_MO_revoke_103 : decode b_MO_revoke 103 = .ok (.iload_n 1, 1) := by decide +kernel
theorem d_MO_revoke_104 : decode b_MO_revoke 104 = .ok (.ishr, 1) := by decide +kernel
theorem d_MO_revoke_105 : decode b_MO_revoke 105 = .ok (.iconst 1, 1) := by decide +kernel
theorem d_MO_revoke_106 : decode b_MO_revoke 106 = .ok (.iand, 1) := by decide +kernel
theorem d_MO_revoke_107 : decode b_MO_revoke 107 = .ok (.iconst 1, 1) := by decide +kernel
theorem d_MO_revoke_108 : decode b_MO_revoke 108 = .ok (.if_icmp .ne 5, 3) := by decide +kernel
theorem d_MO_revoke_111 : decode b_MO_revoke 111 = .ok (.iconst 0, 1) := by decide +kernel
theorem d_MO_revoke_112 : decode b_MO_revoke 112 = .ok (.ireturn, 1) := by decide +kernel
theorem d_MO_revoke_113 : decode b_MO_revoke 113 = .ok (.aload_n 0, 1) := by decide +kernel
theorem d_MO_revoke_114 : decode b_MO_revoke 114 = .ok (.bipush (-2), 2) := by decide +kernel
theorem d_MO_revoke_116 : decode b_MO_revoke 116 = .ok (.bipush (-2), 2) := by decide +kernel
theorem d_MO_revoke_118 : decode b_MO_revoke 118 = .ok (.bipush (-2), 2) := by decide +kernel
theorem d_MO_revoke_120 : decode b_MO_revoke 120 = .ok (.aload_n 0, 1) := by decide +kernel
theorem d_MO_revoke_121 : decode b_MO_revoke 121 = .ok (.getfield 7, 3) := by decide +kernel
theorem d_MO_revoke_124 : decode b_MO_revoke 124 = .ok (.iload_n 2, 1) := by decide +kernel
theorem d_MO_revoke_125 : decode b_MO_revoke 125 = .ok (.bipush 7, 2) := by decide +kernel
theorem d_MO_revoke_127 : decode b_MO_revoke 127 = .ok (.iadd, 1) := by decide +kernel
theorem d_MO_revoke_128 : decode b_MO_revoke 128 = .ok (.iaload, 1) := by decide +kernel
theorem d_MO_revoke_129 : decode b_MO_revoke 129 = .ok (.iconst 1, 1) := by decide +kernel
theorem d_MO_revoke_130 : decode b_MO_revoke 130 = .ok (.iload_n 1, 1) := by decide +kernel
theorem d_MO_revoke_131 : decode b_MO_revoke 131 = .ok (.ishl, 1) := by decide +kernel
theorem d_MO_revoke_132 : decode b_MO_revoke 132 = .ok (.ior, 1) := by decide +kernel
theorem d_MO_revoke_133 : decode b_MO_revoke 133 = .ok (.ldc2_w 116, 3) := by decide +kernel
theorem d_MO_revoke_136 : decode b_MO_revoke 136 = .ok (.invokevirtual 165, 3) := by decide +kernel
theorem d_MO_revoke_139 : decode b_MO_revoke 139 = .ok (.ifCond .eq 7, 3) := by decide +kernel
theorem d_MO_revoke_142 : decode b_MO_revoke 142 = .ok (.iconst 1, 1) := by decide +kernel
theorem d_MO_revoke_143 : decode b_MO_revoke 143 = .ok (.goto 5, 3) := by decide +kernel
theorem d_MO_revoke_146 : decode b_MO_revoke 146 = .ok (.bipush (-106), 2) := by decide +kernel
theorem d_MO_revoke_148 : decode b_MO_revoke 148 = .ok (.ireturn, 1) := by decide +kernel
theorem d_MO_cut_0 : decode b_MO_cut 0 = .ok (.aload_n 0, 1) := by decide +kernel
theorem d_MO_cut_1 : decode b_MO_cut 1 = .ok (.getfield 100, 3) := by decide +kernel
theorem d_MO_cut_4 : decode b_MO_cut 4 = .ok (.ifCond .eq 6, 3) := by decide +kernel
theorem d_MO_cut_7 : decode b_MO_cut 7 = .ok (.bipush (-100), 2) := by decide +kernel
theorem d_MO_cut_9 : decode b_MO_cut 9 = .ok (.ireturn, 1) := by decide +kernel
theorem d_MO_cut_10 : decode b_MO_cut 10 = .ok (.iload_n 1, 1) := by decide +kernel
theorem d_MO_cut_11 : decode b_MO_cut 11 = .ok (.i2l, 1) := by decide +kernel
theorem d_MO_cut_12 : decode b_MO_cut 12 = .ok (.ldc2_w 143, 3) := by decide +kernel
theorem d_MO_cut_15 : decode b_MO_cut 15 = .ok (.ldc2_w 177, 3) := by decide +kernel
theorem d_MO_cut_18 : decode b_MO_cut 18 = .ok (.invokestatic 76, 3) := by decide +kernel
theorem d_MO_cut_21 : decode b_MO_cut 21 = .ok (.ifCond .eq 15, 3) := by decide +kernel
theorem d_MO_cut_24 : decode b_MO_cut 24 = .ok (.iload_n 2, 1) := by decide +kernel
theorem d_MO_cut_25 : decode b_MO_cut 25 = .ok (.i2l, 1) := by decide +kernel
theorem d_MO_cut_26 : decode b_MO_cut 26 = .ok (.lconst 0, 1) := by decide +kernel
theorem d_MO_cut_27 : decode b_MO_cut 27 = .ok (.ldc2_w 179, 3) := by decide +kernel
theorem d_MO_cut_30 : decode b_MO_cut 30 = .ok (.invokestatic 76, 3) := by decide +kernel
theorem d_MO_cut_33 : decode b_MO_cut 33 = .ok (.ifCond .ne 6, 3) := by decide +kernel
theorem d_MO_cut_36 : decode b_MO_cut 36 = .ok (.bipush (-102), 2) := by decide +kernel
theorem d_MO_cut_38 : decode b_MO_cut 38 = .ok (.ireturn, 1) := by decide +kernel
theorem d_MO_cut_39 : decode b_MO_cut 39 = .ok (.aload_n 0, 1) := by decide +kernel
theorem d_MO_cut_40 : decode b_MO_cut 40 = .ok (.iload_n 1, 1) := by decide +kernel
theorem d_MO_cut_41 : decode b_MO_cut 41 = .ok (.putfield 13, 3) := by decide +kernel
theorem d_MO_cut_44 : decode b_MO_cut 44 = .ok (.aload_n 0, 1) := by decide +kernel
theorem d_MO_cut_45 : decode b_MO_cut 45 = .ok (.iload_n 2, 1) := by decide +kernel
theorem d_MO_cut_46 : decode b_MO_cut 46 = .ok (.putfield 110, 3) := by decide +kernel
theorem d_MO_cut_49 : decode b_MO_cut 49 = .ok (.iconst 1, 1) := by decide +kernel
theorem d_MO_cut_50 : decode b_MO_cut 50 = .ok (.ireturn, 1) := by decide +kernel
theorem d_MO_start_0 : decode b_MO_start 0 = .ok (.aload_n 0, 1) := by decide +kernel
theorem d_MO_start_1 : decode b_MO_start 1 = .ok (.getfield 100, 3) := by decide +kernel
theorem d_MO_start_4 : decode b_MO_start 4 = .ok (.ifCond .ne 6, 3) := by decide +kernel
theorem d_MO_start_7 : decode b_MO_start 7 = .ok (.bipush (-103), 2) := by decide +kernel
theorem d_MO_start_9 : decode b_MO_start 9 = .ok (.ireturn, 1) := by decide +kernel
theorem d_MO_start_10 : decode b_MO_start 10 = .ok (.aload_n 0, 1) := by decide +kernel
theorem d_MO_start_11 : decode b_MO_start 11 = .ok (.iconst 0, 1) := by decide +kernel
theorem d_MO_start_12 : decode b_MO_start 12 = .ok (.putfield 100, 3) := by decide +kernel
theorem d_MO_start_15 : decode b_MO_start 15 = .ok (.aload_n 0, 1) := by decide +kernel
theorem d_MO_start_16 : decode b_MO_start 16 = .ok (.iconst (-1), 1) := by decide +kernel
theorem d_MO_start_17 : decode b_MO_start 17 = .ok (.putfield 13, 3) := by decide +kernel
theorem d_MO_start_20 : decode b_MO_start 20 = .ok (.iconst 1, 1) := by decide +kernel
theorem d_MO_start_21 : decode b_MO_start 21 = .ok (.ireturn, 1) := by decide +kernel
theorem d_MO_isByte_0 : decode b_MO_isByte 0 = .ok (.iload_n 0, 1) := by decide +kernel
theorem d_MO_isByte_1 : decode b_MO_isByte 1 = .ok (.i2l, 1) := by decide +kernel
theorem d_MO_isByte_2 : decode b_MO_isByte 2 = .ok (.lconst 0, 1) := by decide +kernel
theorem d_MO_isByte_3 : decode b_MO_isByte 3 = .ok (.ldc2_w 179, 3) := by decide +kernel
theorem d_MO_isByte_6 : decode b_MO_isByte 6 = .ok (.invokestatic 76, 3) := by decide +kernel
theorem d_MO_isByte_9 : decode b_MO_isByte 9 = .ok (.ifCond .eq 19, 3) := by decide +kernel
theorem d_MO_isByte_12 : decode b_MO_isByte 12 = .ok (.iload_n 1, 1) := by decide +kernel
theorem d_MO_isByte_13 : decode b_MO_isByte 13 = .ok (.i2l, 1) := by decide +kernel
theorem d_MO_isByte_14 : decode b_MO_isByte 14 = .ok (.lconst 0, 1) := by decide +kernel
theorem d_MO_isByte_15 : decode b_MO_isByte 15 = .ok (.ldc2_w 179, 3) := by decide +kernel
theorem d_MO_isByte_18 : decode b_MO_isByte 18 = .ok (.invokestatic 76, 3) := by decide +kernel
theorem d_MO_isByte_21 : decode b_MO_isByte 21 = .ok (.ifCond .eq 7, 3) := by decide +kernel
theorem d_MO_isByte_24 : decode b_MO_isByte 24 = .ok (.iconst 1, 1) := by decide +kernel
theorem d_MO_isByte_25 : decode b_MO_isByte 25 = .ok (.goto 4, 3) := by decide +kernel
theorem d_MO_isByte_28 : decode b_MO_isByte 28 = .ok (.iconst 0, 1) := by decide +kernel
theorem d_MO_isByte_29 : decode b_MO_isByte 29 = .ok (.ireturn, 1) := by decide +kernel
theorem d_MO_rot_0 : decode b_MO_rot 0 = .ok (.iload_n 1, 1) := by decide +kernel
theorem d_MO_rot_1 : decode b_MO_rot 1 = .ok (.iload_n 2, 1) := by decide +kernel
theorem d_MO_rot_2 : decode b_MO_rot 2 = .ok (.invokestatic 181, 3) := by decide +kernel
theorem d_MO_rot_5 : decode b_MO_rot 5 = .ok (.ifCond .ne 6, 3) := by decide +kernel
theorem d_MO_rot_8 : decode b_MO_rot 8 = .ok (.bipush (-101), 2) := by decide +kernel
theorem d_MO_rot_10 : decode b_MO_rot 10 = .ok (.ireturn, 1) := by decide +kernel
theorem d_MO_rot_11 : decode b_MO_rot 11 = .ok (.aload_n 0, 1) := by decide +kernel
theorem d_MO_rot_12 : decode b_MO_rot 12 = .ok (.getfield 7, 3) := by decide +kernel
theorem d_MO_rot_15 : decode b_MO_rot 15 = .ok (.bipush 64, 2) := by decide +kernel
theorem d_MO_rot_17 : decode b_MO_rot 17 = .ok (.iload_n 1, 1) := by decide +kernel
theorem d_MO_rot_18 : decode b_MO_rot 18 = .ok (.imul, 1) := by decide +kernel
theorem d_MO_rot_19 : decode b_MO_rot 19 = .ok (.iload_n 2, 1) := by decide +kernel
theorem d_MO_rot_20 : decode b_MO_rot 20 = .ok (.iadd, 1) := by decide +kernel
theorem d_MO_rot_21 : decode b_MO_rot 21 = .ok (.dup2, 1) := by decide +kernel
theorem d_MO_rot_22 : decode b_MO_rot 22 = .ok (.iaload, 1) := by decide +kernel
theorem d_MO_rot_23 : decode b_MO_rot 23 = .ok (.iload_n 3, 1) := by decide +kernel
theorem d_MO_rot_24 : decode b_MO_rot 24 = .ok (.sipush 255, 3) := by decide +kernel
theorem d_MO_rot_27 : decode b_MO_rot 27 = .ok (.iand, 1) := by decide +kernel
theorem d_MO_rot_28 : decode b_MO_rot 28 = .ok (.ixor, 1) := by decide +kernel
theorem d_MO_rot_29 : decode b_MO_rot 29 = .ok (.iastore, 1) := by decide +kernel
theorem d_MO_rot_30 : decode b_MO_rot 30 = .ok (.aload_n 0, 1) := by decide +kernel
theorem d_MO_rot_31 : decode b_MO_rot 31 = .ok (.getfield 7, 3) := by decide +kernel
theorem d_MO_rot_34 : decode b_MO_rot 34 = .ok (.bipush 64, 2) := by decide +kernel
theorem d_MO_rot_36 : decode b_MO_rot 36 = .ok (.iload_n 1, 1) := by decide +kernel
theorem d_MO_rot_37 : decode b_MO_rot 37 = .ok (.imul, 1) := by decide +kernel
theorem d_MO_rot_38 : decode b_MO_rot 38 = .ok (.iload_n 2, 1) := by decide +kernel
theorem d_MO_rot_39 : decode b_MO_rot 39 = .ok (.iadd, 1) := by decide +kernel
theorem d_MO_rot_40 : decode b_MO_rot 40 = .ok (.iaload, 1) := by decide +kernel
theorem d_MO_rot_41 : decode b_MO_rot 41 = .ok (.ireturn, 1) := by decide +kernel
theorem d_MO_octet_0 : decode b_MO_octet 0 = .ok (.iload_n 1, 1) := by decide +kernel
theorem d_MO_octet_1 : decode b_MO_octet 1 = .ok (.iload_n 2, 1) := by decide +kernel
theorem d_MO_octet_2 : decode b_MO_octet 2 = .ok (.invokestatic 181, 3) := by decide +kernel
theorem d_MO_octet_5 : decode b_MO_octet 5 = .ok (.ifCond .eq 17, 3) := by decide +kernel
theorem d_MO_octet_8 : decode b_MO_octet 8 = .ok (.aload_n 0, 1) := by decide +kernel
theorem d_MO_octet_9 : decode b_MO_octet 9 = .ok (.getfield 7, 3) := by decide +kernel
theorem d_MO_octet_12 : decode b_MO_octet 12 = .ok (.bipush 64, 2) := by decide +kernel
theorem d_MO_octet_14 : decode b_MO_octet 14 = .ok (.iload_n 1, 1) := by decide +kernel
theorem d_MO_octet_15 : decode b_MO_octet 15 = .ok (.imul, 1) := by decide +kernel
theorem d_MO_octet_16 : decode b_MO_octet 16 = .ok (.iload_n 2, 1) := by decide +kernel
theorem d_MO_octet_17 : decode b_MO_octet 17 = .ok (.iadd, 1) := by decide +kernel
theorem d_MO_octet_18 : decode b_MO_octet 18 = .ok (.iaload, 1) := by decide +kernel
theorem d_MO_octet_19 : decode b_MO_octet 19 = .ok (.goto 5, 3) := by decide +kernel
theorem d_MO_octet_22 : decode b_MO_octet 22 = .ok (.bipush (-101), 2) := by decide +kernel
theorem d_MO_octet_24 : decode b_MO_octet 24 = .ok (.ireturn, 1) := by decide +kernel
theorem d_MO_running_0 : decode b_MO_running 0 = .ok (.aload_n 0, 1) := by decide +kernel
theorem d_MO_running_1 : decode b_MO_running 1 = .ok (.getfield 100, 3) := by decide +kernel
theorem d_MO_running_4 : decode b_MO_running 4 = .ok (.ifCond .eq 8, 3) := by decide +kernel
theorem d_MO_running_7 : decode b_MO_running 7 = .ok (.bipush (-100), 2) := by decide +kernel
theorem d_MO_running_9 : decode b_MO_running 9 = .ok (.goto 7, 3) := by decide +kernel
theorem d_MO_running_12 : decode b_MO_running 12 = .ok (.aload_n 0, 1) := by decide +kernel
theorem d_MO_running_13 : decode b_MO_running 13 = .ok (.getfield 17, 3) := by decide +kernel
theorem d_MO_running_16 : decode b_MO_running 16 = .ok (.ireturn, 1) := by decide +kernel
theorem d_MO_watchdog_0 : decode b_MO_watchdog 0 = .ok (.aload_n 0, 1) := by decide +kernel
theorem d_MO_watchdog_1 : decode b_MO_watchdog 1 = .ok (.getfield 100, 3) := by decide +kernel
theorem d_MO_watchdog_4 : decode b_MO_watchdog 4 = .ok (.ifCond .eq 8, 3) := by decide +kernel
theorem d_MO_watchdog_7 : decode b_MO_watchdog 7 = .ok (.bipush (-100), 2) := by decide +kernel
theorem d_MO_watchdog_9 : decode b_MO_watchdog 9 = .ok (.goto 7, 3) := by decide +kernel
theorem d_MO_watchdog_12 : decode b_MO_watchdog 12 = .ok (.aload_n 0, 1) := by decide +kernel
theorem d_MO_watchdog_13 : decode b_MO_watchdog 13 = .ok (.getfield 104, 3) := by decide +kernel
theorem d_MO_watchdog_16 : decode b_MO_watchdog 16 = .ok (.ireturn, 1) := by decide +kernel
theorem d_MO_slot_0 : decode b_MO_slot 0 = .ok (.iload_n 1, 1) := by decide +kernel
theorem d_MO_slot_1 : decode b_MO_slot 1 = .ok (.i2l, 1) := by decide +kernel
theorem d_MO_slot_2 : decode b_MO_slot 2 = .ok (.lconst 0, 1) := by decide +kernel
theorem d_MO_slot_3 : decode b_MO_slot 3 = .ok (.lconst 1, 1) := by decide +kernel
theorem d_MO_slot_4 : decode b_MO_slot 4 = .ok (.invokestatic 76, 3) := by decide +kernel
theorem d_MO_slot_7 : decode b_MO_slot 7 = .ok (.ifCond .ne 6, 3) := by decide +kernel
theorem d_MO_slot_10 : decode b_MO_slot 10 = .ok (.bipush (-101), 2) := by decide +kernel
theorem d_MO_slot_12 : decode b_MO_slot 12 = .ok (.ireturn, 1) := by decide +kernel
theorem d_MO_slot_13 : decode b_MO_slot 13 = .ok (.iload_n 2, 1) := by decide +kernel
theorem d_MO_slot_14 : decode b_MO_slot 14 = .ok (.i2l, 1) := by decide +kernel
theorem d_MO_slot_15 : decode b_MO_slot 15 = .ok (.lconst 0, 1) := by decide +kernel
theorem d_MO_slot_16 : decode b_MO_slot 16 = .ok (.ldc2_w 185, 3) := by decide +kernel
theorem d_MO_slot_19 : decode b_MO_slot 19 = .ok (.invokestatic 76, 3) := by decide +kernel
theorem d_MO_slot_22 : decode b_MO_slot 22 = .ok (.ifCond .ne 6, 3) := by decide +kernel
theorem d_MO_slot_25 : decode b_MO_slot 25 = .ok (.bipush (-102), 2) := by decide +kernel
theorem d_MO_slot_27 : decode b_MO_slot 27 = .ok (.ireturn, 1) := by decide +kernel
theorem d_MO_slot_28 : decode b_MO_slot 28 = .ok (.iload_n 1, 1) := by decide +kernel
theorem d_MO_slot_29 : decode b_MO_slot 29 = .ok (.invokestatic 84, 3) := by decide +kernel
theorem d_MO_slot_32 : decode b_MO_slot 32 = .ok (.istore_n 3, 1) := by decide +kernel
theorem d_MO_slot_33 : decode b_MO_slot 33 = .ok (.aload_n 0, 1) := by decide +kernel
theorem d_MO_slot_34 : decode b_MO_slot 34 = .ok (.aload_n 0, 1) := by decide +kernel
theorem d_MO_slot_35 : decode b_MO_slot 35 = .ok (.getfield 7, 3) := by decide +kernel
theorem d_MO_slot_38 : decode b_MO_slot 38 = .ok (.iload_n 3, 1) := by decide +kernel
theorem d_MO_slot_39 : decode b_MO_slot 39 = .ok (.invokevirtual 88, 3) := by decide +kernel
theorem d_MO_slot_42 : decode b_MO_slot 42 = .ok (.istore 4, 2) := by decide +kernel
theorem d_MO_slot_44 : decode b_MO_slot 44 = .ok (.iload_n 2, 1) := by decide +kernel
theorem d_MO_slot_45 : decode b_MO_slot 45 = .ok (.iconst 2, 1) := by decide +kernel
theorem d_MO_slot_46 : decode b_MO_slot 46 = .ok (.if_icmp .ge 29, 3) := by decide +kernel
theorem d_MO_slot_49 : decode b_MO_slot 49 = .ok (.iload_n 2, 1) := by decide +kernel
theorem d_MO_slot_50 : decode b_MO_slot 50 = .ok (.ifCond .ne 14, 3) := by decide +kernel
theorem d_MO_slot_53 : decode b_MO_slot 53 = .ok (.aload_n 0, 1) := by decide +kernel
theorem d_MO_slot_54 : decode b_MO_slot 54 = .ok (.iload_n 1, 1) := by decide +kernel
theorem d_MO_slot_55 : decode b_MO_slot 55 = .ok (.invokevirtual 169, 3) := by decide +kernel
theorem d_MO_slot_58 : decode b_MO_slot 58 = .ok (.ifCond .eq 15, 3) := by decide +kernel
theorem d_MO_slot_61 : decode b_MO_slot 61 = .ok (.goto 8, 3) := by decide +kernel
theorem d_MO_slot_64 : decode b_MO_slot 64 = .ok (.iload 4, 2) := by decide +kernel
theorem d_MO_slot_66 : decode b_MO_slot 66 = .ok (.ifCond .eq 7, 3) := by decide +kernel
theorem d_MO_slot_69 : decode b_MO_slot 69 = .ok (.iconst 1, 1) := by decide +kernel
theorem d_MO_slot_70 : decode b_MO_slot 70 = .ok (.goto 4, 3) := by decide +kernel
theorem d_MO_slot_73 : decode b_MO_slot 73 = .ok (.iconst 0, 1) := by decide +kernel
theorem d_MO_slot_74 : decode b_MO_slot 74 = .ok (.ireturn, 1) := by decide +kernel
theorem d_MO_slot_75 : decode b_MO_slot 75 = .ok (.iload 4, 2) := by decide +kernel
theorem d_MO_slot_77 : decode b_MO_slot 77 = .ok (.ifCond .ne 7, 3) := by decide +kernel
theorem d_MO_slot_80 : decode b_MO_slot 80 = .ok (.iconst 0, 1) := by decide +kernel
theorem d_MO_slot_81 : decode b_MO_slot 81 = .ok (.goto 55, 3) := by decide +kernel
theorem d_MO_slot_84 : decode b_MO_slot 84 = .ok (.iload_n 2, 1) := by decide +kernel
theorem d_MO_slot_85 : decode b_MO_slot 85 = .ok (.iconst 2, 1) := by decide +kernel
theorem d_MO_slot_86 : decode b_MO_slot 86 = .ok (.if_icmp .ne 19, 3) := by decide +kernel
theorem d_MO_slot_89 : decode b_MO_slot 89 = .ok (.aload_n 0, 1) := by decide +kernel
theorem d_MO_slot_90 : decode b_MO_slot 90 = .ok (.aload_n 0, 1) := by decide +kernel
theorem d_MO_slot_91 : decode b_MO_slot 91 = .ok (.getfield 7, 3) := by decide +kernel
theorem d_MO_slot_94 : decode b_MO_slot 94 = .ok (.iload_n 3, 1) := by decide +kernel
theorem d_MO_slot_95 : decode b_MO_slot 95 = .ok (.iconst 4, 1) := by decide +kernel
theorem d_MO_slot_96 : decode b_MO_slot 96 = .ok (.iadd, 1) := by decide +kernel
theorem d_MO_slot_97 : decode b_MO_slot 97 = .ok (.iconst 4, 1) := by decide +kernel
theorem d_MO_slot_98 : decode b_MO_slot 98 = .ok (.invokevirtual 68, 3) := by decide +kernel
theorem d_MO_slot_101 : decode b_MO_slot 101 = .ok (.l2i, 1) := by decide +kernel
theorem d_MO_slot_102 : decode b_MO_slot 102 = .ok (.goto 34, 3) := by decide +kernel
theorem d_MO_slot_105 : decode b_MO_slot 105 = .ok (.iload_n 2, 1) := by decide +kernel
theorem d_MO_slot_106 : decode b_MO_slot 106 = .ok (.iconst 3, 1) := by decide +kernel
theorem d_MO_slot_107 : decode b_MO_slot 107 = .ok (.if_icmp .ne 20, 3) := by decide +kernel
theorem d_MO_slot_110 : decode b_MO_slot 110 = .ok (.aload_n 0, 1) := by decide +kernel
theorem d_MO_slot_111 : decode b_MO_slot 111 = .ok (.aload_n 0, 1) := by decide +kernel
theorem d_MO_slot_112 : decode b_MO_slot 112 = .ok (.getfield 7, 3) := by decide +kernel
theorem d_MO_slot_115 : decode b_MO_slot 115 = .ok (.iload_n 3, 1) := by decide +kernel
