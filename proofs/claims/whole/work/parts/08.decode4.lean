theorem d_TS_isGood_37 : decode b_TS_isGood 37 = .ok (.aload_n 0, 1) := by decide +kernel
theorem d_TS_isGood_38 : decode b_TS_isGood 38 = .ok (.getfield 43, 3) := by decide +kernel
theorem d_TS_isGood_41 : decode b_TS_isGood 41 = .ok (.invokevirtual 176, 3) := by decide +kernel
theorem d_TS_isGood_44 : decode b_TS_isGood 44 = .ok (.invokevirtual 95, 3) := by decide +kernel
theorem d_TS_isGood_47 : decode b_TS_isGood 47 = .ok (.aload_n 0, 1) := by decide +kernel
theorem d_TS_isGood_48 : decode b_TS_isGood 48 = .ok (.getfield 43, 3) := by decide +kernel
theorem d_TS_isGood_51 : decode b_TS_isGood 51 = .ok (.invokevirtual 182, 3) := by decide +kernel
theorem d_TS_isGood_54 : decode b_TS_isGood 54 = .ok (.lcmp, 1) := by decide +kernel
theorem d_TS_isGood_55 : decode b_TS_isGood 55 = .ok (.ifCond .ne 7, 3) := by decide +kernel
theorem d_TS_isGood_58 : decode b_TS_isGood 58 = .ok (.iconst 1, 1) := by decide +kernel
theorem d_TS_isGood_59 : decode b_TS_isGood 59 = .ok (.goto 4, 3) := by decide +kernel
theorem d_TS_isGood_62 : decode b_TS_isGood 62 = .ok (.iconst 0, 1) := by decide +kernel
theorem d_TS_isGood_63 : decode b_TS_isGood 63 = .ok (.ireturn, 1) := by decide +kernel
theorem d_TS_runsForGood_0 : decode b_TS_runsForGood 0 = .ok (.aload_n 0, 1) := by decide +kernel
theorem d_TS_runsForGood_1 : decode b_TS_runsForGood 1 = .ok (.getfield 56, 3) := by decide +kernel
theorem d_TS_runsForGood_4 : decode b_TS_runsForGood 4 = .ok (.iconst (-1), 1) := by decide +kernel
theorem d_TS_runsForGood_5 : decode b_TS_runsForGood 5 = .ok (.if_icmp .eq 14, 3) := by decide +kernel
theorem d_TS_runsForGood_8 : decode b_TS_runsForGood 8 = .ok (.aload_n 0, 1) := by decide +kernel
theorem d_TS_runsForGood_9 : decode b_TS_runsForGood 9 = .ok (.getfield 59, 3) := by decide +kernel
theorem d_TS_runsForGood_12 : decode b_TS_runsForGood 12 = .ok (.ifCond .ne 7, 3) := by decide +kernel
theorem d_TS_runsForGood_15 : decode b_TS_runsForGood 15 = .ok (.iconst 1, 1) := by decide +kernel
theorem d_TS_runsForGood_16 : decode b_TS_runsForGood 16 = .ok (.goto 4, 3) := by decide +kernel
theorem d_TS_runsForGood_19 : decode b_TS_runsForGood 19 = .ok (.iconst 0, 1) := by decide +kernel
theorem d_TS_runsForGood_20 : decode b_TS_runsForGood 20 = .ok (.ireturn, 1) := by decide +kernel
theorem d_TS_dropOffer_0 : decode b_TS_dropOffer 0 = .ok (.aload_n 0, 1) := by decide +kernel
theorem d_TS_dropOffer_1 : decode b_TS_dropOffer 1 = .ok (.iconst (-1), 1) := by decide +kernel
theorem d_TS_dropOffer_2 : decode b_TS_dropOffer 2 = .ok (.putfield 50, 3) := by decide +kernel
theorem d_TS_dropOffer_5 : decode b_TS_dropOffer 5 = .ok (.aload_n 0, 1) := by decide +kernel
theorem d_TS_dropOffer_6 : decode b_TS_dropOffer 6 = .ok (.iconst 0, 1) := by decide +kernel
theorem d_TS_dropOffer_7 : decode b_TS_dropOffer 7 = .ok (.putfield 53, 3) := by decide +kernel
theorem d_TS_dropOffer_10 : decode b_TS_dropOffer 10 = .ok (.return_, 1) := by decide +kernel
theorem d_TS_lose_0 : decode b_TS_lose 0 = .ok (.aload_n 0, 1) := by decide +kernel
theorem d_TS_lose_1 : decode b_TS_lose 1 = .ok (.iconst (-1), 1) := by decide +kernel
theorem d_TS_lose_2 : decode b_TS_lose 2 = .ok (.putfield 56, 3) := by decide +kernel
theorem d_TS_lose_5 : decode b_TS_lose 5 = .ok (.aload_n 0, 1) := by decide +kernel
theorem d_TS_lose_6 : decode b_TS_lose 6 = .ok (.iconst 0, 1) := by decide +kernel
theorem d_TS_lose_7 : decode b_TS_lose 7 = .ok (.putfield 59, 3) := by decide +kernel
theorem d_TS_lose_10 : decode b_TS_lose 10 = .ok (.aload_n 0, 1) := by decide +kernel
theorem d_TS_lose_11 : decode b_TS_lose 11 = .ok (.iconst 0, 1) := by decide +kernel
theorem d_TS_lose_12 : decode b_TS_lose 12 = .ok (.putfield 36, 3) := by decide +kernel
theorem d_TS_lose_15 : decode b_TS_lose 15 = .ok (.aload_n 0, 1) := by decide +kernel
theorem d_TS_lose_16 : decode b_TS_lose 16 = .ok (.invokevirtual 185, 3) := by decide +kernel
theorem d_TS_lose_19 : decode b_TS_lose 19 = .ok (.bipush (-106), 2) := by decide +kernel
theorem d_TS_lose_21 : decode b_TS_lose 21 = .ok (.ireturn, 1) := by decide +kernel
theorem d_TS_runActive_0 : decode b_TS_runActive 0 = .ok (.aload_n 0, 1) := by decide +kernel
theorem d_TS_runActive_1 : decode b_TS_runActive 1 = .ok (.getfield 21, 3) := by decide +kernel
theorem d_TS_runActive_4 : decode b_TS_runActive 4 = .ok (.getfield 164, 3) := by decide +kernel
theorem d_TS_runActive_7 : decode b_TS_runActive 7 = .ok (.istore_n 1, 1) := by decide +kernel
theorem d_TS_runActive_8 : decode b_TS_runActive 8 = .ok (.aload_n 0, 1) := by decide +kernel
theorem d_TS_runActive_9 : decode b_TS_runActive 9 = .ok (.iload_n 1, 1) := by decide +kernel
theorem d_TS_runActive_10 : decode b_TS_runActive 10 = .ok (.invokevirtual 230, 3) := by decide +kernel
theorem d_TS_runActive_13 : decode b_TS_runActive 13 = .ok (.ifCond .eq 13, 3) := by decide +kernel
theorem d_TS_runActive_16 : decode b_TS_runActive 16 = .ok (.aload_n 0, 1) := by decide +kernel
theorem d_TS_runActive_17 : decode b_TS_runActive 17 = .ok (.iload_n 1, 1) := by decide +kernel
theorem d_TS_runActive_18 : decode b_TS_runActive 18 = .ok (.putfield 56, 3) := by decide +kernel
theorem d_TS_runActive_21 : decode b_TS_runActive 21 = .ok (.aload_n 0, 1) := by decide +kernel
theorem d_TS_runActive_22 : decode b_TS_runActive 22 = .ok (.getfield 56, 3) := by decide +kernel
theorem d_TS_runActive_25 : decode b_TS_runActive 25 = .ok (.ireturn, 1) := by decide +kernel
theorem d_TS_runActive_26 : decode b_TS_runActive 26 = .ok (.iload_n 1, 1) := by decide +kernel
theorem d_TS_runActive_27 : decode b_TS_runActive 27 = .ok (.invokestatic 167, 3) := by decide +kernel
theorem d_TS_runActive_30 : decode b_TS_runActive 30 = .ok (.istore_n 2, 1) := by decide +kernel
theorem d_TS_runActive_31 : decode b_TS_runActive 31 = .ok (.aload_n 0, 1) := by decide +kernel
theorem d_TS_runActive_32 : decode b_TS_runActive 32 = .ok (.iload_n 2, 1) := by decide +kernel
theorem d_TS_runActive_33 : decode b_TS_runActive 33 = .ok (.invokevirtual 230, 3) := by decide +kernel
theorem d_TS_runActive_36 : decode b_TS_runActive 36 = .ok (.ifCond .ne 5, 3) := by decide +kernel
theorem d_TS_runActive_39 : decode b_TS_runActive 39 = .ok (.iconst (-1), 1) := by decide +kernel
theorem d_TS_runActive_40 : decode b_TS_runActive 40 = .ok (.ireturn, 1) := by decide +kernel
theorem d_TS_runActive_41 : decode b_TS_runActive 41 = .ok (.aload_n 0, 1) := by decide +kernel
theorem d_TS_runActive_42 : decode b_TS_runActive 42 = .ok (.getfield 21, 3) := by decide +kernel
theorem d_TS_runActive_45 : decode b_TS_runActive 45 = .ok (.iload_n 2, 1) := by decide +kernel
theorem d_TS_runActive_46 : decode b_TS_runActive 46 = .ok (.invokevirtual 254, 3) := by decide +kernel
theorem d_TS_runActive_49 : decode b_TS_runActive 49 = .ok (.ifCond .ne 8, 3) := by decide +kernel
theorem d_TS_runActive_52 : decode b_TS_runActive 52 = .ok (.aload_n 0, 1) := by decide +kernel
theorem d_TS_runActive_53 : decode b_TS_runActive 53 = .ok (.invokevirtual 173, 3) := by decide +kernel
theorem d_TS_runActive_56 : decode b_TS_runActive 56 = .ok (.ireturn, 1) := by decide +kernel
theorem d_TS_runActive_57 : decode b_TS_runActive 57 = .ok (.aload_n 0, 1) := by decide +kernel
theorem d_TS_runActive_58 : decode b_TS_runActive 58 = .ok (.iload_n 2, 1) := by decide +kernel
theorem d_TS_runActive_59 : decode b_TS_runActive 59 = .ok (.putfield 56, 3) := by decide +kernel
theorem d_TS_runActive_62 : decode b_TS_runActive 62 = .ok (.aload_n 0, 1) := by decide +kernel
theorem d_TS_runActive_63 : decode b_TS_runActive 63 = .ok (.getfield 56, 3) := by decide +kernel
theorem d_TS_runActive_66 : decode b_TS_runActive 66 = .ok (.ireturn, 1) := by decide +kernel
theorem d_TS_runOnTrial_0 : decode b_TS_runOnTrial 0 = .ok (.aload_n 0, 1) := by decide +kernel
theorem d_TS_runOnTrial_1 : decode b_TS_runOnTrial 1 = .ok (.getfield 21, 3) := by decide +kernel
theorem d_TS_runOnTrial_4 : decode b_TS_runOnTrial 4 = .ok (.iload_n 1, 1) := by decide +kernel
theorem d_TS_runOnTrial_5 : decode b_TS_runOnTrial 5 = .ok (.aload_n 0, 1) := by decide +kernel
theorem d_TS_runOnTrial_6 : decode b_TS_runOnTrial 6 = .ok (.getfield 21, 3) := by decide +kernel
theorem d_TS_runOnTrial_9 : decode b_TS_runOnTrial 9 = .ok (.getfield 236, 3) := by decide +kernel
theorem d_TS_runOnTrial_12 : decode b_TS_runOnTrial 12 = .ok (.iconst 1, 1) := by decide +kernel
theorem d_TS_runOnTrial_13 : decode b_TS_runOnTrial 13 = .ok (.isub, 1) := by decide +kernel
theorem d_TS_runOnTrial_14 : decode b_TS_runOnTrial 14 = .ok (.invokevirtual 188, 3) := by decide +kernel
theorem d_TS_runOnTrial_17 : decode b_TS_runOnTrial 17 = .ok (.ifCond .ne 8, 3) := by decide +kernel
theorem d_TS_runOnTrial_20 : decode b_TS_runOnTrial 20 = .ok (.aload_n 0, 1) := by decide +kernel
theorem d_TS_runOnTrial_21 : decode b_TS_runOnTrial 21 = .ok (.invokevirtual 173, 3) := by decide +kernel
theorem d_TS_runOnTrial_24 : decode b_TS_runOnTrial 24 = .ok (.ireturn, 1) := by decide +kernel
theorem d_TS_runOnTrial_25 : decode b_TS_runOnTrial 25 = .ok (.aload_n 0, 1) := by decide +kernel
theorem d_TS_runOnTrial_26 : decode b_TS_runOnTrial 26 = .ok (.dup, 1) := by decide +kernel
theorem d_TS_runOnTrial_27 : decode b_TS_runOnTrial 27 = .ok (.getfield 65, 3) := by decide +kernel
theorem d_TS_runOnTrial_30 : decode b_TS_runOnTrial 30 = .ok (.iconst 1, 1) := by decide +kernel
theorem d_TS_runOnTrial_31 : decode b_TS_runOnTrial 31 = .ok (.iadd, 1) := by decide +kernel
theorem d_TS_runOnTrial_32 : decode b_TS_runOnTrial 32 = .ok (.putfield 65, 3) := by decide +kernel
theorem d_TS_runOnTrial_35 : decode b_TS_runOnTrial 35 = .ok (.aload_n 0, 1) := by decide +kernel
theorem d_TS_runOnTrial_36 : decode b_TS_runOnTrial 36 = .ok (.iload_n 1, 1) := by decide +kernel
theorem d_TS_runOnTrial_37 : decode b_TS_runOnTrial 37 = .ok (.putfield 56, 3) := by decide +kernel
theorem d_TS_runOnTrial_40 : decode b_TS_runOnTrial 40 = .ok (.aload_n 0, 1) := by decide +kernel
theorem d_TS_runOnTrial_41 : decode b_TS_runOnTrial 41 = .ok (.bipush 20, 2) := by decide +kernel
theorem d_TS_runOnTrial_43 : decode b_TS_runOnTrial 43 = .ok (.putfield 59, 3) := by decide +kernel
theorem d_TS_runOnTrial_46 : decode b_TS_runOnTrial 46 = .ok (.aload_n 0, 1) := by decide +kernel
theorem d_TS_runOnTrial_47 : decode b_TS_runOnTrial 47 = .ok (.getfield 56, 3) := by decide +kernel
theorem d_TS_runOnTrial_50 : decode b_TS_runOnTrial 50 = .ok (.ireturn, 1) := by decide +kernel
theorem d_TS_bootUp_0 : decode b_TS_bootUp 0 = .ok (.aload_n 0, 1) := by decide +kernel
theorem d_TS_bootUp_1 : decode b_TS_bootUp 1 = .ok (.dup, 1) := by decide +kernel
theorem d_TS_bootUp_2 : decode b_TS_bootUp 2 = .ok (.getfield 62, 3) := by decide +kernel
theorem d_TS_bootUp_5 : decode b_TS_bootUp 5 = .ok (.iconst 1, 1) := by decide +kernel
theorem d_TS_bootUp_6 : decode b_TS_bootUp 6 = .ok (.iadd, 1) := by decide +kernel
theorem d_TS_bootUp_7 : decode b_TS_bootUp 7 = .ok (.putfield 62, 3) := by decide +kernel
theorem d_TS_bootUp_10 : decode b_TS_bootUp 10 = .ok (.aload_n 0, 1) := by decide +kernel
theorem d_TS_bootUp_11 : decode b_TS_bootUp 11 = .ok (.iconst (-1), 1) := by decide +kernel
theorem d_TS_bootUp_12 : decode b_TS_bootUp 12 = .ok (.putfield 56, 3) := by decide +kernel
theorem d_TS_bootUp_15 : decode b_TS_bootUp 15 = .ok (.aload_n 0, 1) := by decide +kernel
theorem d_TS_bootUp_16 : decode b_TS_bootUp 16 = .ok (.iconst 0, 1) := by decide +kernel
theorem d_TS_bootUp_17 : decode b_TS_bootUp 17 = .ok (.putfield 59, 3) := by decide +kernel
theorem d_TS_bootUp_20 : decode b_TS_bootUp 20 = .ok (.aload_n 0, 1) := by decide +kernel
theorem d_TS_bootUp_21 : decode b_TS_bootUp 21 = .ok (.invokevirtual 185, 3) := by decide +kernel
theorem d_TS_bootUp_24 : decode b_TS_bootUp 24 = .ok (.aload_n 0, 1) := by decide +kernel
theorem d_TS_bootUp_25 : decode b_TS_bootUp 25 = .ok (.getfield 21, 3) := by decide +kernel
theorem d_TS_bootUp_28 : decode b_TS_bootUp 28 = .ok (.getfield 151, 3) := by decide +kernel
theorem d_TS_bootUp_31 : decode b_TS_bootUp 31 = .ok (.iconst (-1), 1) := by decide +kernel
theorem d_TS_bootUp_32 : decode b_TS_bootUp 32 = .ok (.if_icmp .ne 5, 3) := by decide +kernel
theorem d_TS_bootUp_35 : decode b_TS_bootUp 35 = .ok (.iconst (-1), 1) := by decide +kernel
theorem d_TS_bootUp_36 : decode b_TS_bootUp 36 = .ok (.ireturn, 1) := by decide +kernel
theorem d_TS_bootUp_37 : decode b_TS_bootUp 37 = .ok (.aload_n 0, 1) := by decide +kernel
theorem d_TS_bootUp_38 : decode b_TS_bootUp 38 = .ok (.getfield 21, 3) := by decide +kernel
theorem d_TS_bootUp_41 : decode b_TS_bootUp 41 = .ok (.getfield 204, 3) := by decide +kernel
theorem d_TS_bootUp_44 : decode b_TS_bootUp 44 = .ok (.istore_n 1, 1) := by decide +kernel
theorem d_TS_bootUp_45 : decode b_TS_bootUp 45 = .ok (.iload_n 1, 1) := by decide +kernel
theorem d_TS_bootUp_46 : decode b_TS_bootUp 46 = .ok (.iconst (-1), 1) := by decide +kernel
theorem d_TS_bootUp_47 : decode b_TS_bootUp 47 = .ok (.if_icmp .eq 27, 3) := by decide +kernel
theorem d_TS_bootUp_50 : decode b_TS_bootUp 50 = .ok (.aload_n 0, 1) := by decide +kernel
theorem d_TS_bootUp_51 : decode b_TS_bootUp 51 = .ok (.getfield 21, 3) := by decide +kernel
theorem d_TS_bootUp_54 : decode b_TS_bootUp 54 = .ok (.getfield 236, 3) := by decide +kernel
theorem d_TS_bootUp_57 : decode b_TS_bootUp 57 = .ok (.ifCond .le 17, 3) := by decide +kernel
theorem d_TS_bootUp_60 : decode b_TS_bootUp 60 = .ok (.aload_n 0, 1) := by decide +kernel
theorem d_TS_bootUp_61 : decode b_TS_bootUp 61 = .ok (.iload_n 1, 1) := by decide +kernel
theorem d_TS_bootUp_62 : decode b_TS_bootUp 62 = .ok (.invokevirtual 230, 3) := by decide +kernel
theorem d_TS_bootUp_65 : decode b_TS_bootUp 65 = .ok (.ifCond .eq 9, 3) := by decide +kernel
theorem d_TS_bootUp_68 : decode b_TS_bootUp 68 = .ok (.aload_n 0, 1) := by decide +kernel
theorem d_TS_bootUp_69 : decode b_TS_bootUp 69 = .ok (.iload_n 1, 1) := by decide +kernel
theorem d_TS_bootUp_70 : decode b_TS_bootUp 70 = .ok (.invokevirtual 248, 3) := by decide +kernel
theorem d_TS_bootUp_73 : decode b_TS_bootUp 73 = .ok (.ireturn, 1) := by decide +kernel
theorem d_TS_bootUp_74 : decode b_TS_bootUp 74 = .ok (.iload_n 1, 1) := by decide +kernel
theorem d_TS_bootUp_75 : decode b_TS_bootUp 75 = .ok (.iconst (-1), 1) := by decide +kernel
theorem d_TS_bootUp_76 : decode b_TS_bootUp 76 = .ok (.if_icmp .eq 20, 3) := by decide +kernel
theorem d_TS_bootUp_79 : decode b_TS_bootUp 79 = .ok (.aload_n 0, 1) := by decide +kernel
theorem d_TS_bootUp_80 : decode b_TS_bootUp 80 = .ok (.getfield 21, 3) := by decide +kernel
theorem d_TS_bootUp_83 : decode b_TS_bootUp 83 = .ok (.iconst (-1), 1) := by decide +kernel
theorem d_TS_bootUp_84 : decode b_TS_bootUp 84 = .ok (.iconst 0, 1) := by decide +kernel
theorem d_TS_bootUp_85 : decode b_TS_bootUp 85 = .ok (.invokevirtual 188, 3) := by decide +kernel
theorem d_TS_bootUp_88 : decode b_TS_bootUp 88 = .ok (.ifCond .ne 8, 3) := by decide +kernel
theorem d_TS_bootUp_91 : decode b_TS_bootUp 91 = .ok (.aload_n 0, 1) := by decide +kernel
theorem d_TS_bootUp_92 : decode b_TS_bootUp 92 = .ok (.invokevirtual 173, 3) := by decide +kernel
theorem d_TS_bootUp_95 : decode b_TS_bootUp 95 = .ok (.ireturn, 1) := by decide +kernel
theorem d_TS_bootUp_96 : decode b_TS_bootUp 96 = .ok (.aload_n 0, 1) := by decide +kernel
theorem d_TS_bootUp_97 : decode b_TS_bootUp 97 = .ok (.invokevirtual 251, 3) := by decide +kernel
theorem d_TS_bootUp_100 : decode b_TS_bootUp 100 = .ok (.ireturn, 1) := by decide +kernel
theorem d_TS_make_0 : decode b_TS_make 0 = .ok (.iload_n 2, 1) := by decide +kernel
theorem d_TS_make_1 : decode b_TS_make 1 = .ok (.iconst 1, 1) := by decide +kernel
theorem d_TS_make_2 : decode b_TS_make 2 = .ok (.if_icmp .lt 18, 3) := by decide +kernel
theorem d_TS_make_5 : decode b_TS_make 5 = .ok (.iload_n 2, 1) := by decide +kernel
theorem d_TS_make_6 : decode b_TS_make 6 = .ok (.bipush 30, 2) := by decide +kernel
theorem d_TS_make_8 : decode b_TS_make 8 = .ok (.if_icmp .gt 12, 3) := by decide +kernel
theorem d_TS_make_11 : decode b_TS_make 11 = .ok (.iload_n 3, 1) := by decide +kernel
theorem d_TS_make_12 : decode b_TS_make 12 = .ok (.ifCond .lt 8, 3) := by decide +kernel
theorem d_TS_make_15 : decode b_TS_make 15 = .ok (.iload_n 3, 1) := by decide +kernel
theorem d_TS_make_16 : decode b_TS_make 16 = .ok (.iconst 4, 1) := by decide +kernel
theorem d_TS_make_17 : decode b_TS_make 17 = .ok (.if_icmp .lt 6, 3) := by decide +kernel
theorem d_TS_make_20 : decode b_TS_make 20 = .ok (.bipush (-102), 2) := by decide +kernel
theorem d_TS_make_22 : decode b_TS_make 22 = .ok (.ireturn, 1) := by decide +kernel
theorem d_TS_make_23 : decode b_TS_make 23 = .ok (.aload_n 0, 1) := by decide +kernel
theorem d_TS_make_24 : decode b_TS_make 24 = .ok (.getfield 28, 3) := by decide +kernel
theorem d_TS_make_27 : decode b_TS_make 27 = .ok (.iload_n 1, 1) := by decide +kernel
theorem d_TS_make_28 : decode b_TS_make 28 = .ok (.putfield 121, 3) := by decide +kernel
theorem d_TS_make_31 : decode b_TS_make 31 = .ok (.aload_n 0, 1) := by decide +kernel
theorem d_TS_make_32 : decode b_TS_make 32 = .ok (.getfield 28, 3) := by decide +kernel
theorem d_TS_make_35 : decode b_TS_make 35 = .ok (.iload_n 2, 1) := by decide +kernel
theorem d_TS_make_36 : decode b_TS_make 36 = .ok (.putfield 124, 3) := by decide +kernel
theorem d_TS_make_39 : decode b_TS_make 39 = .ok (.aload_n 0, 1) := by decide +kernel
theorem d_TS_make_40 : decode b_TS_make 40 = .ok (.getfield 28, 3) := by decide +kernel
theorem d_TS_make_43 : decode b_TS_make 43 = .ok (.iload_n 3, 1) := by decide +kernel
theorem d_TS_make_44 : decode b_TS_make 44 = .ok (.putfield 127, 3) := by decide +kernel
theorem d_TS_make_47 : decode b_TS_make 47 = .ok (.aload_n 0, 1) := by decide +kernel
theorem d_TS_make_48 : decode b_TS_make 48 = .ok (.getfield 28, 3) := by decide +kernel
theorem d_TS_make_51 : decode b_TS_make 51 = .ok (.iload 4, 2) := by decide +kernel
theorem d_TS_make_53 : decode b_TS_make 53 = .ok (.putfield 129, 3) := by decide +kernel
theorem d_TS_make_56 : decode b_TS_make 56 = .ok (.iconst 1, 1) := by decide +kernel
theorem d_TS_make_57 : decode b_TS_make 57 = .ok (.ireturn, 1) := by decide +kernel
theorem d_TS_pack_0 : decode b_TS_pack 0 = .ok (.iload_n 1, 1) := by decide +kernel
theorem d_TS_pack_1 : decode b_TS_pack 1 = .ok (.iconst (-1), 1) := by decide +kernel
theorem d_TS_pack_2 : decode b_TS_pack 2 = .ok (.if_icmp .lt 24, 3) := by decide +kernel
theorem d_TS_pack_5 : decode b_TS_pack 5 = .ok (.iload_n 1, 1) := by decide +kernel
theorem d_TS_pack_6 : decode b_TS_pack 6 = .ok (.aload_n 0, 1) := by decide +kernel
theorem d_TS_pack_7 : decode b_TS_pack 7 = .ok (.getfield 28, 3) := by decide +kernel
theorem d_TS_pack_10 : decode b_TS_pack 10 = .ok (.getfield 124, 3) := by decide +kernel
theorem d_TS_pack_13 : decode b_TS_pack 13 = .ok (.if_icmp .ge 13, 3) := by decide +kernel
theorem d_TS_pack_16 : decode b_TS_pack 16 = .ok (.aload_n 0, 1) := by decide +kernel
theorem d_TS_pack_17 : decode b_TS_pack 17 = .ok (.getfield 28, 3) := by decide +kernel
theorem d_TS_pack_20 : decode b_TS_pack 20 = .ok (.getfield 124, 3) := by decide +kernel
theorem d_TS_pack_23 : decode b_TS_pack 23 = .ok (.ifCond .ne 6, 3) := by decide +kernel
theorem d_TS_pack_26 : decode b_TS_pack 26 = .ok (.bipush (-101), 2) := by decide +kernel
theorem d_TS_pack_28 : decode b_TS_pack 28 = .ok (.ireturn, 1) := by decide +kernel
theorem d_TS_pack_29 : decode b_TS_pack 29 = .ok (.iload_n 1, 1) := by decide +kernel
theorem d_TS_pack_30 : decode b_TS_pack 30 = .ok (.iconst (-1), 1) := by decide +kernel
theorem d_TS_pack_31 : decode b_TS_pack 31 = .ok (.if_icmp .ne 74, 3) := by decide +kernel
theorem d_TS_pack_34 : decode b_TS_pack 34 = .ok (.aload_n 0, 1) := by decide +kernel
theorem d_TS_pack_35 : decode b_TS_pack 35 = .ok (.getfield 28, 3) := by decide +kernel
theorem d_TS_pack_38 : decode b_TS_pack 38 = .ok (.aload_n 0, 1) := by decide +kernel
theorem d_TS_pack_39 : decode b_TS_pack 39 = .ok (.getfield 32, 3) := by decide +kernel
theorem d_TS_pack_42 : decode b_TS_pack 42 = .ok (.invokevirtual 132, 3) := by decide +kernel
theorem d_TS_pack_45 : decode b_TS_pack 45 = .ok (.lstore_n 2, 1) := by decide +kernel
theorem d_TS_pack_46 : decode b_TS_pack 46 = .ok (.aload_n 0, 1) := by decide +kernel
theorem d_TS_pack_47 : decode b_TS_pack 47 = .ok (.getfield 43, 3) := by decide +kernel
theorem d_TS_pack_50 : decode b_TS_pack 50 = .ok (.aload_n 0, 1) := by decide +kernel
theorem d_TS_pack_51 : decode b_TS_pack 51 = .ok (.getfield 28, 3) := by decide +kernel
theorem d_TS_pack_54 : decode b_TS_pack 54 = .ok (.getfield 121, 3) := by decide +kernel
theorem d_TS_pack_57 : decode b_TS_pack 57 = .ok (.aload_n 0, 1) := by decide +kernel
theorem d_TS_pack_58 : decode b_TS_pack 58 = .ok (.getfield 28, 3) := by decide +kernel
theorem d_TS_pack_61 : decode b_TS_pack 61 = .ok (.getfield 124, 3) := by decide +kernel
theorem d_TS_pack_64 : decode b_TS_pack 64 = .ok (.aload_n 0, 1) := by decide +kernel
theorem d_TS_pack_65 : decode b_TS_pack 65 = .ok (.getfield 28, 3) := by decide +kernel
theorem d_TS_pack_68 : decode b_TS_pack 68 = .ok (.getfield 127, 3) := by decide +kernel
theorem d_TS_pack_71 : decode b_TS_pack 71 = .ok (.lload_n 2, 1) := by decide +kernel
theorem d_TS_pack_72 : decode b_TS_pack 72 = .ok (.aload_n 0, 1) := by decide +kernel
theorem d_TS_pack_73 : decode b_TS_pack 73 = .ok (.aload_n 0, 1) := by decide +kernel
theorem d_TS_pack_74 : decode b_TS_pack 74 = .ok (.getfield 28, 3) := by decide +kernel
theorem d_TS_pack_77 : decode b_TS_pack 77 = .ok (.getfield 127, 3) := by decide +kernel
theorem d_TS_pack_80 : decode b_TS_pack 80 = .ok (.invokevirtual 99, 3) := by decide +kernel
theorem d_TS_pack_83 : decode b_TS_pack 83 = .ok (.invokevirtual 103, 3) := by decide +kernel
theorem d_TS_pack_86 : decode b_TS_pack 86 = .ok (.aload_n 0, 1) := by decide +kernel
theorem d_TS_pack_87 : decode b_TS_pack 87 = .ok (.getfield 43, 3) := by decide +kernel
theorem d_TS_pack_90 : decode b_TS_pack 90 = .ok (.getfield 107, 3) := by decide +kernel
theorem d_TS_pack_93 : decode b_TS_pack 93 = .ok (.iconst 0, 1) := by decide +kernel
theorem d_TS_pack_94 : decode b_TS_pack 94 = .ok (.aload_n 0, 1) := by decide +kernel
theorem d_TS_pack_95 : decode b_TS_pack 95 = .ok (.getfield 32, 3) := by decide +kernel
theorem d_TS_pack_98 : decode b_TS_pack 98 = .ok (.iconst 0, 1) := by decide +kernel
theorem d_TS_pack_99 : decode b_TS_pack 99 = .ok (.invokestatic 113, 3) := by decide +kernel
theorem d_TS_pack_102 : decode b_TS_pack 102 = .ok (.goto 15, 3) := by decide +kernel
theorem d_TS_pack_105 : decode b_TS_pack 105 = .ok (.aload_n 0, 1) := by decide +kernel
theorem d_TS_pack_106 : decode b_TS_pack 106 = .ok (.getfield 28, 3) := by decide +kernel
theorem d_TS_pack_109 : decode b_TS_pack 109 = .ok (.iload_n 1, 1) := by decide +kernel
theorem d_TS_pack_110 : decode b_TS_pack 110 = .ok (.aload_n 0, 1) := by decide +kernel
theorem d_TS_pack_111 : decode b_TS_pack 111 = .ok (.getfield 32, 3) := by decide +kernel
theorem d_TS_pack_114 : decode b_TS_pack 114 = .ok (.invokevirtual 135, 3) := by decide +kernel
theorem d_TS_pack_117 : decode b_TS_pack 117 = .ok (.aload_n 0, 1) := by decide +kernel
theorem d_TS_pack_118 : decode b_TS_pack 118 = .ok (.bipush 64, 2) := by decide +kernel
theorem d_TS_pack_120 : decode b_TS_pack 120 = .ok (.putfield 36, 3) := by decide +kernel
theorem d_TS_pack_123 : decode b_TS_pack 123 = .ok (.aload_n 0, 1) := by decide +kernel
theorem d_TS_pack_124 : decode b_TS_pack 124 = .ok (.getfield 36, 3) := by decide +kernel
theorem d_TS_pack_127 : decode b_TS_pack 127 = .ok (.ireturn, 1) := by decide +kernel
theorem d_TS_alter_0 : decode b_TS_alter 0 = .ok (.iload_n 1, 1) := by decide +kernel
theorem d_TS_alter_1 : decode b_TS_alter 1 = .ok (.ifCond .lt 11, 3) := by decide +kernel
theorem d_TS_alter_4 : decode b_TS_alter 4 = .ok (.iload_n 1, 1) := by decide +kernel
theorem d_TS_alter_5 : decode b_TS_alter 5 = .ok (.aload_n 0, 1) := by decide +kernel
theorem d_TS_alter_6 : decode b_TS_alter 6 = .ok (.getfield 36, 3) := by decide +kernel
theorem d_TS_alter_9 : decode b_TS_alter 9 = .ok (.if_icmp .lt 6, 3) := by decide +kernel
theorem d_TS_alter_12 : decode b_TS_alter 12 = .ok (.bipush (-101), 2) := by decide +kernel
theorem d_TS_alter_14 : decode b_TS_alter 14 = .ok (.ireturn, 1) := by decide +kernel
theorem d_TS_alter_15 : decode b_TS_alter 15 = .ok (.aload_n 0, 1) := by decide +kernel
theorem d_TS_alter_16 : decode b_TS_alter 16 = .ok (.getfield 32, 3) := by decide +kernel
theorem d_TS_alter_19 : decode b_TS_alter 19 = .ok (.iload_n 1, 1) := by decide +kernel
theorem d_TS_alter_20 : decode b_TS_alter 20 = .ok (.aload_n 0, 1) := by decide +kernel
theorem d_TS_alter_21 : decode b_TS_alter 21 = .ok (.getfield 32, 3) := by decide +kernel
theorem d_TS_alter_24 : decode b_TS_alter 24 = .ok (.iload_n 1, 1) := by decide +kernel
theorem d_TS_alter_25 : decode b_TS_alter 25 = .ok (.invokestatic 139, 3) := by decide +kernel
theorem d_TS_alter_28 : decode b_TS_alter 28 = .ok (.iload_n 2, 1) := by decide +kernel
theorem d_TS_alter_29 : decode b_TS_alter 29 = .ok (.ixor, 1) := by decide +kernel
theorem d_TS_alter_30 : decode b_TS_alter 30 = .ok (.invokestatic 91, 3) := by decide +kernel
theorem d_TS_alter_33 : decode b_TS_alter 33 = .ok (.aload_n 0, 1) := by decide +kernel
theorem d_TS_alter_34 : decode b_TS_alter 34 = .ok (.getfield 32, 3) := by decide +kernel
theorem d_TS_alter_37 : decode b_TS_alter 37 = .ok (.iload_n 1, 1) := by decide +kernel
theorem d_TS_alter_38 : decode b_TS_alter 38 = .ok (.invokestatic 139, 3) := by decide +kernel
theorem d_TS_alter_41 : decode b_TS_alter 41 = .ok (.ireturn, 1) := by decide +kernel
theorem d_TS_offer_0 : decode b_TS_offer 0 = .ok (.aload_n 0, 1) := by decide +kernel
theorem d_TS_offer_1 : decode b_TS_offer 1 = .ok (.getfield 10, 3) := by decide +kernel
theorem d_TS_offer_4 : decode b_TS_offer 4 = .ok (.getfield 143, 3) := by decide +kernel
theorem d_TS_offer_7 : decode b_TS_offer 7 = .ok (.ifCond .eq 6, 3) := by decide +kernel
theorem d_TS_offer_10 : decode b_TS_offer 10 = .ok (.bipush (-100), 2) := by decide +kernel
theorem d_TS_offer_12 : decode b_TS_offer 12 = .ok (.ireturn, 1) := by decide +kernel
theorem d_TS_offer_13 : decode b_TS_offer 13 = .ok (.aload_n 0, 1) := by decide +kernel
theorem d_TS_offer_14 : decode b_TS_offer 14 = .ok (.invokevirtual 147, 3) := by decide +kernel
theorem d_TS_offer_17 : decode b_TS_offer 17 = .ok (.ifCond .eq 14, 3) := by decide +kernel
theorem d_TS_offer_20 : decode b_TS_offer 20 = .ok (.aload_n 0, 1) := by decide +kernel
theorem d_TS_offer_21 : decode b_TS_offer 21 = .ok (.getfield 21, 3) := by decide +kernel
theorem d_TS_offer_24 : decode b_TS_offer 24 = .ok (.getfield 151, 3) := by decide +kernel
theorem d_TS_offer_27 : decode b_TS_offer 27 = .ok (.iconst (-1), 1) := by decide +kernel
theorem d_TS_offer_28 : decode b_TS_offer 28 = .ok (.if_icmp .ne 6, 3) := by decide +kernel
theorem d_TS_offer_31 : decode b_TS_offer 31 = .ok (.bipush (-103), 2) := by decide +kernel
theorem d_TS_offer_33 : decode b_TS_offer 33 = .ok (.ireturn, 1) := by decide +kernel
theorem d_TS_offer_34 : decode b_TS_offer 34 = .ok (.aload_n 0, 1) := by decide +kernel
theorem d_TS_offer_35 : decode b_TS_offer 35 = .ok (.getfield 36, 3) := by decide +kernel
theorem d_TS_offer_38 : decode b_TS_offer 38 = .ok (.bipush 64, 2) := by decide +kernel
theorem d_TS_offer_40 : decode b_TS_offer 40 = .ok (.if_icmp .ne 7, 3) := by decide +kernel
theorem d_TS_offer_43 : decode b_TS_offer 43 = .ok (.iconst 1, 1) := by decide +kernel
theorem d_TS_offer_44 : decode b_TS_offer 44 = .ok (.goto 4, 3) := by decide +kernel
theorem d_TS_offer_47 : decode b_TS_offer 47 = .ok (.iconst 0, 1) := by decide +kernel
theorem d_TS_offer_48 : decode b_TS_offer 48 = .ok (.istore_n 1, 1) := by decide +kernel
theorem d_TS_offer_49 : decode b_TS_offer 49 = .ok (.aload_n 0, 1) := by decide +kernel
theorem d_TS_offer_50 : decode b_TS_offer 50 = .ok (.iconst 0, 1) := by decide +kernel
theorem d_TS_offer_51 : decode b_TS_offer 51 = .ok (.putfield 36, 3) := by decide +kernel
theorem d_TS_offer_54 : decode b_TS_offer 54 = .ok (.aload_n 0, 1) := by decide +kernel
theorem d_TS_offer_55 : decode b_TS_offer 55 = .ok (.getfield 32, 3) := by decide +kernel
theorem d_TS_offer_58 : decode b_TS_offer 58 = .ok (.iconst 0, 1) := by decide +kernel
theorem d_TS_offer_59 : decode b_TS_offer 59 = .ok (.aload_n 0, 1) := by decide +kernel
theorem d_TS_offer_60 : decode b_TS_offer 60 = .ok (.getfield 43, 3) := by decide +kernel
theorem d_TS_offer_63 : decode b_TS_offer 63 = .ok (.getfield 107, 3) := by decide +kernel
theorem d_TS_offer_66 : decode b_TS_offer 66 = .ok (.iconst 0, 1) := by decide +kernel
theorem d_TS_offer_67 : decode b_TS_offer 67 = .ok (.invokestatic 113, 3) := by decide +kernel
theorem d_TS_offer_70 : decode b_TS_offer 70 = .ok (.iload_n 1, 1) := by decide +kernel
theorem d_TS_offer_71 : decode b_TS_offer 71 = .ok (.ifCond .eq 24, 3) := by decide +kernel
theorem d_TS_offer_74 : decode b_TS_offer 74 = .ok (.aload_n 0, 1) := by decide +kernel
theorem d_TS_offer_75 : decode b_TS_offer 75 = .ok (.invokevirtual 154, 3) := by decide +kernel
theorem d_TS_offer_78 : decode b_TS_offer 78 = .ok (.ifCond .eq 17, 3) := by decide +kernel
theorem d_TS_offer_81 : decode b_TS_offer 81 = .ok (.aload_n 0, 1) := by decide +kernel
theorem d_TS_offer_82 : decode b_TS_offer 82 = .ok (.aload_n 0, 1) := by decide +kernel
theorem d_TS_offer_83 : decode b_TS_offer 83 = .ok (.getfield 43, 3) := by decide +kernel
theorem d_TS_offer_86 : decode b_TS_offer 86 = .ok (.invokevirtual 157, 3) := by decide +kernel
theorem d_TS_offer_89 : decode b_TS_offer 89 = .ok (.invokevirtual 160, 3) := by decide +kernel
theorem d_TS_offer_92 : decode b_TS_offer 92 = .ok (.ifCond .eq 6, 3) := by decide +kernel
theorem d_TS_offer_95 : decode b_TS_offer 95 = .ok (.bipush (-105), 2) := by decide +kernel
theorem d_TS_offer_97 : decode b_TS_offer 97 = .ok (.ireturn, 1) := by decide +kernel
theorem d_TS_offer_98 : decode b_TS_offer 98 = .ok (.aload_n 0, 1) := by decide +kernel
theorem d_TS_offer_99 : decode b_TS_offer 99 = .ok (.getfield 21, 3) := by decide +kernel
theorem d_TS_offer_102 : decode b_TS_offer 102 = .ok (.getfield 164, 3) := by decide +kernel
theorem d_TS_offer_105 : decode b_TS_offer 105 = .ok (.invokestatic 167, 3) := by decide +kernel
theorem d_TS_offer_108 : decode b_TS_offer 108 = .ok (.istore_n 2, 1) := by decide +kernel
theorem d_TS_offer_109 : decode b_TS_offer 109 = .ok (.aload_n 0, 1) := by decide +kernel
theorem d_TS_offer_110 : decode b_TS_offer 110 = .ok (.getfield 10, 3) := by decide +kernel
theorem d_TS_offer_113 : decode b_TS_offer 113 = .ok (.iload_n 2, 1) := by decide +kernel
theorem d_TS_offer_114 : decode b_TS_offer 114 = .ok (.invokestatic 110, 3) := by decide +kernel
theorem d_TS_offer_117 : decode b_TS_offer 117 = .ok (.invokevirtual 170, 3) := by decide +kernel
theorem d_TS_offer_120 : decode b_TS_offer 120 = .ok (.ifCond .ne 8, 3) := by decide +kernel
theorem d_TS_offer_123 : decode b_TS_offer 123 = .ok (.aload_n 0, 1) := by decide +kernel
theorem d_TS_offer_124 : decode b_TS_offer 124 = .ok (.invokevirtual 173, 3) := by decide +kernel
theorem d_TS_offer_127 : decode b_TS_offer 127 = .ok (.ireturn, 1) := by decide +kernel
theorem d_TS_offer_128 : decode b_TS_offer 128 = .ok (.aload_n 0, 1) := by decide +kernel
theorem d_TS_offer_129 : decode b_TS_offer 129 = .ok (.getfield 43, 3) := by decide +kernel
theorem d_TS_offer_132 : decode b_TS_offer 132 = .ok (.getfield 107, 3) := by decide +kernel
theorem d_TS_offer_135 : decode b_TS_offer 135 = .ok (.iconst 0, 1) := by decide +kernel
theorem d_TS_offer_136 : decode b_TS_offer 136 = .ok (.aload_n 0, 1) := by decide +kernel
theorem d_TS_offer_137 : decode b_TS_offer 137 = .ok (.getfield 47, 3) := by decide +kernel
theorem d_TS_offer_140 : decode b_TS_offer 140 = .ok (.getfield 107, 3) := by decide +kernel
theorem d_TS_offer_143 : decode b_TS_offer 143 = .ok (.iconst 0, 1) := by decide +kernel
