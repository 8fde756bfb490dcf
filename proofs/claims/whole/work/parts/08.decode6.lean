theorem d_TS_start_12 : decode b_TS_start 12 = .ok (.ireturn, 1) := by decide +kernel
theorem d_TS_start_13 : decode b_TS_start 13 = .ok (.aload_n 0, 1) := by decide +kernel
theorem d_TS_start_14 : decode b_TS_start 14 = .ok (.getfield 10, 3) := by decide +kernel
theorem d_TS_start_17 : decode b_TS_start 17 = .ok (.iconst 0, 1) := by decide +kernel
theorem d_TS_start_18 : decode b_TS_start 18 = .ok (.putfield 143, 3) := by decide +kernel
theorem d_TS_start_21 : decode b_TS_start 21 = .ok (.iconst 1, 1) := by decide +kernel
theorem d_TS_start_22 : decode b_TS_start 22 = .ok (.ireturn, 1) := by decide +kernel
theorem d_TS_rot_0 : decode b_TS_rot 0 = .ok (.iload_n 1, 1) := by decide +kernel
theorem d_TS_rot_1 : decode b_TS_rot 1 = .ok (.iload_n 2, 1) := by decide +kernel
theorem d_TS_rot_2 : decode b_TS_rot 2 = .ok (.invokestatic 224, 3) := by decide +kernel
theorem d_TS_rot_5 : decode b_TS_rot 5 = .ok (.ifCond .ne 6, 3) := by decide +kernel
theorem d_TS_rot_8 : decode b_TS_rot 8 = .ok (.bipush (-101), 2) := by decide +kernel
theorem d_TS_rot_10 : decode b_TS_rot 10 = .ok (.ireturn, 1) := by decide +kernel
theorem d_TS_rot_11 : decode b_TS_rot 11 = .ok (.iload_n 1, 1) := by decide +kernel
theorem d_TS_rot_12 : decode b_TS_rot 12 = .ok (.bipush 64, 2) := by decide +kernel
theorem d_TS_rot_14 : decode b_TS_rot 14 = .ok (.imul, 1) := by decide +kernel
theorem d_TS_rot_15 : decode b_TS_rot 15 = .ok (.iload_n 2, 1) := by decide +kernel
theorem d_TS_rot_16 : decode b_TS_rot 16 = .ok (.iadd, 1) := by decide +kernel
theorem d_TS_rot_17 : decode b_TS_rot 17 = .ok (.istore 4, 2) := by decide +kernel
theorem d_TS_rot_19 : decode b_TS_rot 19 = .ok (.aload_n 0, 1) := by decide +kernel
theorem d_TS_rot_20 : decode b_TS_rot 20 = .ok (.getfield 10, 3) := by decide +kernel
theorem d_TS_rot_23 : decode b_TS_rot 23 = .ok (.getfield 88, 3) := by decide +kernel
theorem d_TS_rot_26 : decode b_TS_rot 26 = .ok (.iload 4, 2) := by decide +kernel
theorem d_TS_rot_28 : decode b_TS_rot 28 = .ok (.aload_n 0, 1) := by decide +kernel
theorem d_TS_rot_29 : decode b_TS_rot 29 = .ok (.getfield 10, 3) := by decide +kernel
theorem d_TS_rot_32 : decode b_TS_rot 32 = .ok (.getfield 88, 3) := by decide +kernel
theorem d_TS_rot_35 : decode b_TS_rot 35 = .ok (.iload 4, 2) := by decide +kernel
theorem d_TS_rot_37 : decode b_TS_rot 37 = .ok (.invokestatic 139, 3) := by decide +kernel
theorem d_TS_rot_40 : decode b_TS_rot 40 = .ok (.iload_n 3, 1) := by decide +kernel
theorem d_TS_rot_41 : decode b_TS_rot 41 = .ok (.ixor, 1) := by decide +kernel
theorem d_TS_rot_42 : decode b_TS_rot 42 = .ok (.invokestatic 91, 3) := by decide +kernel
theorem d_TS_rot_45 : decode b_TS_rot 45 = .ok (.aload_n 0, 1) := by decide +kernel
theorem d_TS_rot_46 : decode b_TS_rot 46 = .ok (.getfield 21, 3) := by decide +kernel
theorem d_TS_rot_49 : decode b_TS_rot 49 = .ok (.invokevirtual 227, 3) := by decide +kernel
theorem d_TS_rot_52 : decode b_TS_rot 52 = .ok (.aload_n 0, 1) := by decide +kernel
theorem d_TS_rot_53 : decode b_TS_rot 53 = .ok (.getfield 10, 3) := by decide +kernel
theorem d_TS_rot_56 : decode b_TS_rot 56 = .ok (.getfield 88, 3) := by decide +kernel
theorem d_TS_rot_59 : decode b_TS_rot 59 = .ok (.iload 4, 2) := by decide +kernel
theorem d_TS_rot_61 : decode b_TS_rot 61 = .ok (.invokestatic 139, 3) := by decide +kernel
theorem d_TS_rot_64 : decode b_TS_rot 64 = .ok (.ireturn, 1) := by decide +kernel
theorem d_TS_octet_0 : decode b_TS_octet 0 = .ok (.iload_n 1, 1) := by decide +kernel
theorem d_TS_octet_1 : decode b_TS_octet 1 = .ok (.iload_n 2, 1) := by decide +kernel
theorem d_TS_octet_2 : decode b_TS_octet 2 = .ok (.invokestatic 224, 3) := by decide +kernel
theorem d_TS_octet_5 : decode b_TS_octet 5 = .ok (.ifCond .ne 6, 3) := by decide +kernel
theorem d_TS_octet_8 : decode b_TS_octet 8 = .ok (.bipush (-101), 2) := by decide +kernel
theorem d_TS_octet_10 : decode b_TS_octet 10 = .ok (.ireturn, 1) := by decide +kernel
theorem d_TS_octet_11 : decode b_TS_octet 11 = .ok (.aload_n 0, 1) := by decide +kernel
theorem d_TS_octet_12 : decode b_TS_octet 12 = .ok (.getfield 10, 3) := by decide +kernel
theorem d_TS_octet_15 : decode b_TS_octet 15 = .ok (.getfield 88, 3) := by decide +kernel
theorem d_TS_octet_18 : decode b_TS_octet 18 = .ok (.iload_n 1, 1) := by decide +kernel
theorem d_TS_octet_19 : decode b_TS_octet 19 = .ok (.bipush 64, 2) := by decide +kernel
theorem d_TS_octet_21 : decode b_TS_octet 21 = .ok (.imul, 1) := by decide +kernel
theorem d_TS_octet_22 : decode b_TS_octet 22 = .ok (.iload_n 2, 1) := by decide +kernel
theorem d_TS_octet_23 : decode b_TS_octet 23 = .ok (.iadd, 1) := by decide +kernel
theorem d_TS_octet_24 : decode b_TS_octet 24 = .ok (.invokestatic 139, 3) := by decide +kernel
theorem d_TS_octet_27 : decode b_TS_octet 27 = .ok (.ireturn, 1) := by decide +kernel
theorem d_TS_running_0 : decode b_TS_running 0 = .ok (.aload_n 0, 1) := by decide +kernel
theorem d_TS_running_1 : decode b_TS_running 1 = .ok (.getfield 10, 3) := by decide +kernel
theorem d_TS_running_4 : decode b_TS_running 4 = .ok (.getfield 143, 3) := by decide +kernel
theorem d_TS_running_7 : decode b_TS_running 7 = .ok (.ifCond .eq 8, 3) := by decide +kernel
theorem d_TS_running_10 : decode b_TS_running 10 = .ok (.bipush (-100), 2) := by decide +kernel
theorem d_TS_running_12 : decode b_TS_running 12 = .ok (.goto 7, 3) := by decide +kernel
theorem d_TS_running_15 : decode b_TS_running 15 = .ok (.aload_n 0, 1) := by decide +kernel
theorem d_TS_running_16 : decode b_TS_running 16 = .ok (.getfield 56, 3) := by decide +kernel
theorem d_TS_running_19 : decode b_TS_running 19 = .ok (.ireturn, 1) := by decide +kernel
theorem d_TS_watchdog_0 : decode b_TS_watchdog 0 = .ok (.aload_n 0, 1) := by decide +kernel
theorem d_TS_watchdog_1 : decode b_TS_watchdog 1 = .ok (.getfield 10, 3) := by decide +kernel
theorem d_TS_watchdog_4 : decode b_TS_watchdog 4 = .ok (.getfield 143, 3) := by decide +kernel
theorem d_TS_watchdog_7 : decode b_TS_watchdog 7 = .ok (.ifCond .eq 8, 3) := by decide +kernel
theorem d_TS_watchdog_10 : decode b_TS_watchdog 10 = .ok (.bipush (-100), 2) := by decide +kernel
theorem d_TS_watchdog_12 : decode b_TS_watchdog 12 = .ok (.goto 7, 3) := by decide +kernel
theorem d_TS_watchdog_15 : decode b_TS_watchdog 15 = .ok (.aload_n 0, 1) := by decide +kernel
theorem d_TS_watchdog_16 : decode b_TS_watchdog 16 = .ok (.getfield 59, 3) := by decide +kernel
theorem d_TS_watchdog_19 : decode b_TS_watchdog 19 = .ok (.ireturn, 1) := by decide +kernel
theorem d_TS_slot_0 : decode b_TS_slot 0 = .ok (.iload_n 1, 1) := by decide +kernel
theorem d_TS_slot_1 : decode b_TS_slot 1 = .ok (.ifCond .lt 8, 3) := by decide +kernel
theorem d_TS_slot_4 : decode b_TS_slot 4 = .ok (.iload_n 1, 1) := by decide +kernel
theorem d_TS_slot_5 : decode b_TS_slot 5 = .ok (.iconst 2, 1) := by decide +kernel
theorem d_TS_slot_6 : decode b_TS_slot 6 = .ok (.if_icmp .lt 6, 3) := by decide +kernel
theorem d_TS_slot_9 : decode b_TS_slot 9 = .ok (.bipush (-101), 2) := by decide +kernel
theorem d_TS_slot_11 : decode b_TS_slot 11 = .ok (.ireturn, 1) := by decide +kernel
theorem d_TS_slot_12 : decode b_TS_slot 12 = .ok (.iload_n 2, 1) := by decide +kernel
theorem d_TS_slot_13 : decode b_TS_slot 13 = .ok (.ifCond .lt 8, 3) := by decide +kernel
theorem d_TS_slot_16 : decode b_TS_slot 16 = .ok (.iload_n 2, 1) := by decide +kernel
theorem d_TS_slot_17 : decode b_TS_slot 17 = .ok (.iconst 4, 1) := by decide +kernel
theorem d_TS_slot_18 : decode b_TS_slot 18 = .ok (.if_icmp .le 6, 3) := by decide +kernel
theorem d_TS_slot_21 : decode b_TS_slot 21 = .ok (.bipush (-102), 2) := by decide +kernel
theorem d_TS_slot_23 : decode b_TS_slot 23 = .ok (.ireturn, 1) := by decide +kernel
theorem d_TS_slot_24 : decode b_TS_slot 24 = .ok (.aload_n 0, 1) := by decide +kernel
theorem d_TS_slot_25 : decode b_TS_slot 25 = .ok (.iload_n 1, 1) := by decide +kernel
theorem d_TS_slot_26 : decode b_TS_slot 26 = .ok (.invokevirtual 195, 3) := by decide +kernel
theorem d_TS_slot_29 : decode b_TS_slot 29 = .ok (.aload_n 0, 1) := by decide +kernel
theorem d_TS_slot_30 : decode b_TS_slot 30 = .ok (.invokevirtual 154, 3) := by decide +kernel
theorem d_TS_slot_33 : decode b_TS_slot 33 = .ok (.ifCond .ne 5, 3) := by decide +kernel
theorem d_TS_slot_36 : decode b_TS_slot 36 = .ok (.iconst 0, 1) := by decide +kernel
theorem d_TS_slot_37 : decode b_TS_slot 37 = .ok (.ireturn, 1) := by decide +kernel
theorem d_TS_slot_38 : decode b_TS_slot 38 = .ok (.iload_n 2, 1) := by decide +kernel
theorem d_TS_slot_39 : decode b_TS_slot 39 = .ok (.tableswitch 61 0 3 #[29, 43, 45, 53], 29) := by decide +kernel
theorem d_TS_slot_68 : decode b_TS_slot 68 = .ok (.aload_n 0, 1) := by decide +kernel
theorem d_TS_slot_69 : decode b_TS_slot 69 = .ok (.iload_n 1, 1) := by decide +kernel
theorem d_TS_slot_70 : decode b_TS_slot 70 = .ok (.invokevirtual 230, 3) := by decide +kernel
theorem d_TS_slot_73 : decode b_TS_slot 73 = .ok (.ifCond .eq 7, 3) := by decide +kernel
theorem d_TS_slot_76 : decode b_TS_slot 76 = .ok (.iconst 1, 1) := by decide +kernel
theorem d_TS_slot_77 : decode b_TS_slot 77 = .ok (.goto 4, 3) := by decide +kernel
theorem d_TS_slot_80 : decode b_TS_slot 80 = .ok (.iconst 0, 1) := by decide +kernel
theorem d_TS_slot_81 : decode b_TS_slot 81 = .ok (.ireturn, 1) := by decide +kernel
theorem d_TS_slot_82 : decode b_TS_slot 82 = .ok (.iconst 1, 1) := by decide +kernel
theorem d_TS_slot_83 : decode b_TS_slot 83 = .ok (.ireturn, 1) := by decide +kernel
theorem d_TS_slot_84 : decode b_TS_slot 84 = .ok (.aload_n 0, 1) := by decide +kernel
theorem d_TS_slot_85 : decode b_TS_slot 85 = .ok (.getfield 43, 3) := by decide +kernel
theorem d_TS_slot_88 : decode b_TS_slot 88 = .ok (.invokevirtual 157, 3) := by decide +kernel
theorem d_TS_slot_91 : decode b_TS_slot 91 = .ok (.ireturn, 1) := by decide +kernel
theorem d_TS_slot_92 : decode b_TS_slot 92 = .ok (.aload_n 0, 1) := by decide +kernel
theorem d_TS_slot_93 : decode b_TS_slot 93 = .ok (.getfield 43, 3) := by decide +kernel
theorem d_TS_slot_96 : decode b_TS_slot 96 = .ok (.invokevirtual 176, 3) := by decide +kernel
theorem d_TS_slot_99 : decode b_TS_slot 99 = .ok (.ireturn, 1) := by decide +kernel
theorem d_TS_slot_100 : decode b_TS_slot 100 = .ok (.aload_n 0, 1) := by decide +kernel
theorem d_TS_slot_101 : decode b_TS_slot 101 = .ok (.getfield 43, 3) := by decide +kernel
theorem d_TS_slot_104 : decode b_TS_slot 104 = .ok (.invokevirtual 207, 3) := by decide +kernel
theorem d_TS_slot_107 : decode b_TS_slot 107 = .ok (.ireturn, 1) := by decide +kernel
theorem d_TS_record_0 : decode b_TS_record 0 = .ok (.iload_n 1, 1) := by decide +kernel
theorem d_TS_record_1 : decode b_TS_record 1 = .ok (.ifCond .lt 9, 3) := by decide +kernel
theorem d_TS_record_4 : decode b_TS_record 4 = .ok (.iload_n 1, 1) := by decide +kernel
theorem d_TS_record_5 : decode b_TS_record 5 = .ok (.bipush 7, 2) := by decide +kernel
theorem d_TS_record_7 : decode b_TS_record 7 = .ok (.if_icmp .le 6, 3) := by decide +kernel
theorem d_TS_record_10 : decode b_TS_record 10 = .ok (.bipush (-102), 2) := by decide +kernel
theorem d_TS_record_12 : decode b_TS_record 12 = .ok (.ireturn, 1) := by decide +kernel
theorem d_TS_record_13 : decode b_TS_record 13 = .ok (.aload_n 0, 1) := by decide +kernel
theorem d_TS_record_14 : decode b_TS_record 14 = .ok (.getfield 21, 3) := by decide +kernel
theorem d_TS_record_17 : decode b_TS_record 17 = .ok (.getfield 151, 3) := by decide +kernel
theorem d_TS_record_20 : decode b_TS_record 20 = .ok (.iconst (-1), 1) := by decide +kernel
theorem d_TS_record_21 : decode b_TS_record 21 = .ok (.if_icmp .ne 5, 3) := by decide +kernel
theorem d_TS_record_24 : decode b_TS_record 24 = .ok (.iconst (-1), 1) := by decide +kernel
theorem d_TS_record_25 : decode b_TS_record 25 = .ok (.ireturn, 1) := by decide +kernel
theorem d_TS_record_26 : decode b_TS_record 26 = .ok (.iload_n 1, 1) := by decide +kernel
theorem d_TS_record_27 : decode b_TS_record 27 = .ok (.tableswitch 100 0 6 #[41, 49, 57, 65, 73, 81, 89], 41) := by decide +kernel
theorem d_TS_record_68 : decode b_TS_record 68 = .ok (.aload_n 0, 1) := by decide +kernel
theorem d_TS_record_69 : decode b_TS_record 69 = .ok (.getfield 21, 3) := by decide +kernel
theorem d_TS_record_72 : decode b_TS_record 72 = .ok (.getfield 233, 3) := by decide +kernel
theorem d_TS_record_75 : decode b_TS_record 75 = .ok (.ireturn, 1) := by decide +kernel
theorem d_TS_record_76 : decode b_TS_record 76 = .ok (.aload_n 0, 1) := by decide +kernel
theorem d_TS_record_77 : decode b_TS_record 77 = .ok (.getfield 21, 3) := by decide +kernel
theorem d_TS_record_80 : decode b_TS_record 80 = .ok (.getfield 164, 3) := by decide +kernel
theorem d_TS_record_83 : decode b_TS_record 83 = .ok (.ireturn, 1) := by decide +kernel
theorem d_TS_record_84 : decode b_TS_record 84 = .ok (.aload_n 0, 1) := by decide +kernel
theorem d_TS_record_85 : decode b_TS_record 85 = .ok (.getfield 21, 3) := by decide +kernel
theorem d_TS_record_88 : decode b_TS_record 88 = .ok (.getfield 204, 3) := by decide +kernel
theorem d_TS_record_91 : decode b_TS_record 91 = .ok (.ireturn, 1) := by decide +kernel
theorem d_TS_record_92 : decode b_TS_record 92 = .ok (.aload_n 0, 1) := by decide +kernel
theorem d_TS_record_93 : decode b_TS_record 93 = .ok (.getfield 21, 3) := by decide +kernel
theorem d_TS_record_96 : decode b_TS_record 96 = .ok (.getfield 236, 3) := by decide +kernel
theorem d_TS_record_99 : decode b_TS_record 99 = .ok (.ireturn, 1) := by decide +kernel
theorem d_TS_record_100 : decode b_TS_record 100 = .ok (.aload_n 0, 1) := by decide +kernel
theorem d_TS_record_101 : decode b_TS_record 101 = .ok (.getfield 21, 3) := by decide +kernel
theorem d_TS_record_104 : decode b_TS_record 104 = .ok (.getfield 212, 3) := by decide +kernel
theorem d_TS_record_107 : decode b_TS_record 107 = .ok (.ireturn, 1) := by decide +kernel
theorem d_TS_record_108 : decode b_TS_record 108 = .ok (.aload_n 0, 1) := by decide +kernel
theorem d_TS_record_109 : decode b_TS_record 109 = .ok (.getfield 21, 3) := by decide +kernel
theorem d_TS_record_112 : decode b_TS_record 112 = .ok (.getfield 198, 3) := by decide +kernel
theorem d_TS_record_115 : decode b_TS_record 115 = .ok (.ireturn, 1) := by decide +kernel
theorem d_TS_record_116 : decode b_TS_record 116 = .ok (.aload_n 0, 1) := by decide +kernel
theorem d_TS_record_117 : decode b_TS_record 117 = .ok (.getfield 21, 3) := by decide +kernel
theorem d_TS_record_120 : decode b_TS_record 120 = .ok (.getfield 151, 3) := by decide +kernel
theorem d_TS_record_123 : decode b_TS_record 123 = .ok (.bipush 64, 2) := by decide +kernel
theorem d_TS_record_125 : decode b_TS_record 125 = .ok (.idiv, 1) := by decide +kernel
theorem d_TS_record_126 : decode b_TS_record 126 = .ok (.ireturn, 1) := by decide +kernel
theorem d_TS_record_127 : decode b_TS_record 127 = .ok (.aload_n 0, 1) := by decide +kernel
theorem d_TS_record_128 : decode b_TS_record 128 = .ok (.getfield 21, 3) := by decide +kernel
theorem d_TS_record_131 : decode b_TS_record 131 = .ok (.getfield 151, 3) := by decide +kernel
theorem d_TS_record_134 : decode b_TS_record 134 = .ok (.bipush 64, 2) := by decide +kernel
theorem d_TS_record_136 : decode b_TS_record 136 = .ok (.irem, 1) := by decide +kernel
theorem d_TS_record_137 : decode b_TS_record 137 = .ok (.bipush 16, 2) := by decide +kernel
theorem d_TS_record_139 : decode b_TS_record 139 = .ok (.idiv, 1) := by decide +kernel
theorem d_TS_record_140 : decode b_TS_record 140 = .ok (.ireturn, 1) := by decide +kernel
theorem d_TS_count_0 : decode b_TS_count 0 = .ok (.iload_n 1, 1) := by decide +kernel
theorem d_TS_count_1 : decode b_TS_count 1 = .ok (.tableswitch 105 0 8 #[51, 59, 67, 75, 80, 85, 90, 95, 100], 51) := by decide +kernel
theorem d_TS_count_52 : decode b_TS_count 52 = .ok (.aload_n 0, 1) := by decide +kernel
theorem d_TS_count_53 : decode b_TS_count 53 = .ok (.getfield 10, 3) := by decide +kernel
theorem d_TS_count_56 : decode b_TS_count 56 = .ok (.getfield 239, 3) := by decide +kernel
theorem d_TS_count_59 : decode b_TS_count 59 = .ok (.ireturn, 1) := by decide +kernel
theorem d_TS_count_60 : decode b_TS_count 60 = .ok (.aload_n 0, 1) := by decide +kernel
theorem d_TS_count_61 : decode b_TS_count 61 = .ok (.getfield 10, 3) := by decide +kernel
theorem d_TS_count_64 : decode b_TS_count 64 = .ok (.getfield 242, 3) := by decide +kernel
theorem d_TS_count_67 : decode b_TS_count 67 = .ok (.ireturn, 1) := by decide +kernel
theorem d_TS_count_68 : decode b_TS_count 68 = .ok (.aload_n 0, 1) := by decide +kernel
theorem d_TS_count_69 : decode b_TS_count 69 = .ok (.getfield 21, 3) := by decide +kernel
theorem d_TS_count_72 : decode b_TS_count 72 = .ok (.getfield 245, 3) := by decide +kernel
theorem d_TS_count_75 : decode b_TS_count 75 = .ok (.ireturn, 1) := by decide +kernel
theorem d_TS_count_76 : decode b_TS_count 76 = .ok (.aload_n 0, 1) := by decide +kernel
theorem d_TS_count_77 : decode b_TS_count 77 = .ok (.getfield 62, 3) := by decide +kernel
theorem d_TS_count_80 : decode b_TS_count 80 = .ok (.ireturn, 1) := by decide +kernel
theorem d_TS_count_81 : decode b_TS_count 81 = .ok (.aload_n 0, 1) := by decide +kernel
theorem d_TS_count_82 : decode b_TS_count 82 = .ok (.getfield 65, 3) := by decide +kernel
theorem d_TS_count_85 : decode b_TS_count 85 = .ok (.ireturn, 1) := by decide +kernel
theorem d_TS_count_86 : decode b_TS_count 86 = .ok (.aload_n 0, 1) := by decide +kernel
theorem d_TS_count_87 : decode b_TS_count 87 = .ok (.getfield 68, 3) := by decide +kernel
theorem d_TS_count_90 : decode b_TS_count 90 = .ok (.ireturn, 1) := by decide +kernel
theorem d_TS_count_91 : decode b_TS_count 91 = .ok (.aload_n 0, 1) := by decide +kernel
theorem d_TS_count_92 : decode b_TS_count 92 = .ok (.getfield 71, 3) := by decide +kernel
theorem d_TS_count_95 : decode b_TS_count 95 = .ok (.ireturn, 1) := by decide +kernel
theorem d_TS_count_96 : decode b_TS_count 96 = .ok (.aload_n 0, 1) := by decide +kernel
theorem d_TS_count_97 : decode b_TS_count 97 = .ok (.getfield 36, 3) := by decide +kernel
theorem d_TS_count_100 : decode b_TS_count 100 = .ok (.ireturn, 1) := by decide +kernel
theorem d_TS_count_101 : decode b_TS_count 101 = .ok (.aload_n 0, 1) := by decide +kernel
theorem d_TS_count_102 : decode b_TS_count 102 = .ok (.getfield 53, 3) := by decide +kernel
theorem d_TS_count_105 : decode b_TS_count 105 = .ok (.ireturn, 1) := by decide +kernel
theorem d_TS_count_106 : decode b_TS_count 106 = .ok (.bipush (-102), 2) := by decide +kernel
theorem d_TS_count_108 : decode b_TS_count 108 = .ok (.ireturn, 1) := by decide +kernel
