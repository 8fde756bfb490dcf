theorem d_FL_programSector_30 : decode b_FL_programSector 30 = .ok (.iinc 3 1, 3) := by decide +kernel
theorem d_FL_programSector_33 : decode b_FL_programSector 33 = .ok (.goto (-31), 3) := by decide +kernel
theorem d_FL_programSector_36 : decode b_FL_programSector 36 = .ok (.iconst 1, 1) := by decide +kernel
theorem d_FL_programSector_37 : decode b_FL_programSector 37 = .ok (.ireturn, 1) := by decide +kernel
theorem d_HD_version_0 : decode b_HD_version 0 = .ok (.aload_n 0, 1) := by decide +kernel
theorem d_HD_version_1 : decode b_HD_version 1 = .ok (.getfield 9, 3) := by decide +kernel
theorem d_HD_version_4 : decode b_HD_version 4 = .ok (.iconst 4, 1) := by decide +kernel
theorem d_HD_version_5 : decode b_HD_version 5 = .ok (.iconst 4, 1) := by decide +kernel
theorem d_HD_version_6 : decode b_HD_version 6 = .ok (.invokestatic 35, 3) := by decide +kernel
theorem d_HD_version_9 : decode b_HD_version 9 = .ok (.l2i, 1) := by decide +kernel
theorem d_HD_version_10 : decode b_HD_version 10 = .ok (.ireturn, 1) := by decide +kernel
theorem d_HD_size_0 : decode b_HD_size 0 = .ok (.aload_n 0, 1) := by decide +kernel
theorem d_HD_size_1 : decode b_HD_size 1 = .ok (.getfield 9, 3) := by decide +kernel
theorem d_HD_size_4 : decode b_HD_size 4 = .ok (.bipush 8, 2) := by decide +kernel
theorem d_HD_size_6 : decode b_HD_size 6 = .ok (.iconst 4, 1) := by decide +kernel
theorem d_HD_size_7 : decode b_HD_size 7 = .ok (.invokestatic 35, 3) := by decide +kernel
theorem d_HD_size_10 : decode b_HD_size 10 = .ok (.l2i, 1) := by decide +kernel
theorem d_HD_size_11 : decode b_HD_size 11 = .ok (.ireturn, 1) := by decide +kernel
theorem d_HD_key_0 : decode b_HD_key 0 = .ok (.aload_n 0, 1) := by decide +kernel
theorem d_HD_key_1 : decode b_HD_key 1 = .ok (.getfield 9, 3) := by decide +kernel
theorem d_HD_key_4 : decode b_HD_key 4 = .ok (.bipush 12, 2) := by decide +kernel
theorem d_HD_key_6 : decode b_HD_key 6 = .ok (.invokestatic 39, 3) := by decide +kernel
theorem d_HD_key_9 : decode b_HD_key 9 = .ok (.ireturn, 1) := by decide +kernel
theorem d_HD_bodyDigest_0 : decode b_HD_bodyDigest 0 = .ok (.aload_n 0, 1) := by decide +kernel
theorem d_HD_bodyDigest_1 : decode b_HD_bodyDigest 1 = .ok (.getfield 9, 3) := by decide +kernel
theorem d_HD_bodyDigest_4 : decode b_HD_bodyDigest 4 = .ok (.bipush 20, 2) := by decide +kernel
theorem d_HD_bodyDigest_6 : decode b_HD_bodyDigest 6 = .ok (.bipush 8, 2) := by decide +kernel
theorem d_HD_bodyDigest_8 : decode b_HD_bodyDigest 8 = .ok (.invokestatic 35, 3) := by decide +kernel
theorem d_HD_bodyDigest_11 : decode b_HD_bodyDigest 11 = .ok (.lreturn, 1) := by decide +kernel
theorem d_HD_compose_0 : decode b_HD_compose 0 = .ok (.aload_n 0, 1) := by decide +kernel
theorem d_HD_compose_1 : decode b_HD_compose 1 = .ok (.getfield 9, 3) := by decide +kernel
theorem d_HD_compose_4 : decode b_HD_compose 4 = .ok (.iconst 0, 1) := by decide +kernel
theorem d_HD_compose_5 : decode b_HD_compose 5 = .ok (.invokestatic 15, 3) := by decide +kernel
theorem d_HD_compose_8 : decode b_HD_compose 8 = .ok (.aload_n 0, 1) := by decide +kernel
theorem d_HD_compose_9 : decode b_HD_compose 9 = .ok (.getfield 9, 3) := by decide +kernel
theorem d_HD_compose_12 : decode b_HD_compose 12 = .ok (.iconst 0, 1) := by decide +kernel
theorem d_HD_compose_13 : decode b_HD_compose 13 = .ok (.iconst 4, 1) := by decide +kernel
theorem d_HD_compose_14 : decode b_HD_compose 14 = .ok (.ldc2_w 21, 3) := by decide +kernel
theorem d_HD_compose_17 : decode b_HD_compose 17 = .ok (.invokestatic 23, 3) := by decide +kernel
theorem d_HD_compose_20 : decode b_HD_compose 20 = .ok (.aload_n 0, 1) := by decide +kernel
theorem d_HD_compose_21 : decode b_HD_compose 21 = .ok (.getfield 9, 3) := by decide +kernel
theorem d_HD_compose_24 : decode b_HD_compose 24 = .ok (.iconst 4, 1) := by decide +kernel
theorem d_HD_compose_25 : decode b_HD_compose 25 = .ok (.iconst 4, 1) := by decide +kernel
theorem d_HD_compose_26 : decode b_HD_compose 26 = .ok (.iload_n 1, 1) := by decide +kernel
theorem d_HD_compose_27 : decode b_HD_compose 27 = .ok (.i2l, 1) := by decide +kernel
theorem d_HD_compose_28 : decode b_HD_compose 28 = .ok (.invokestatic 23, 3) := by decide +kernel
theorem d_HD_compose_31 : decode b_HD_compose 31 = .ok (.aload_n 0, 1) := by decide +kernel
theorem d_HD_compose_32 : decode b_HD_compose 32 = .ok (.getfield 9, 3) := by decide +kernel
theorem d_HD_compose_35 : decode b_HD_compose 35 = .ok (.bipush 8, 2) := by decide +kernel
theorem d_HD_compose_37 : decode b_HD_compose 37 = .ok (.iconst 4, 1) := by decide +kernel
theorem d_HD_compose_38 : decode b_HD_compose 38 = .ok (.iload_n 2, 1) := by decide +kernel
theorem d_HD_compose_39 : decode b_HD_compose 39 = .ok (.i2l, 1) := by decide +kernel
theorem d_HD_compose_40 : decode b_HD_compose 40 = .ok (.invokestatic 23, 3) := by decide +kernel
theorem d_HD_compose_43 : decode b_HD_compose 43 = .ok (.aload_n 0, 1) := by decide +kernel
theorem d_HD_compose_44 : decode b_HD_compose 44 = .ok (.getfield 9, 3) := by decide +kernel
theorem d_HD_compose_47 : decode b_HD_compose 47 = .ok (.bipush 12, 2) := by decide +kernel
theorem d_HD_compose_49 : decode b_HD_compose 49 = .ok (.iload_n 3, 1) := by decide +kernel
theorem d_HD_compose_50 : decode b_HD_compose 50 = .ok (.invokestatic 27, 3) := by decide +kernel
theorem d_HD_compose_53 : decode b_HD_compose 53 = .ok (.aload_n 0, 1) := by decide +kernel
theorem d_HD_compose_54 : decode b_HD_compose 54 = .ok (.getfield 9, 3) := by decide +kernel
theorem d_HD_compose_57 : decode b_HD_compose 57 = .ok (.bipush 20, 2) := by decide +kernel
theorem d_HD_compose_59 : decode b_HD_compose 59 = .ok (.bipush 8, 2) := by decide +kernel
theorem d_HD_compose_61 : decode b_HD_compose 61 = .ok (.lload 4, 2) := by decide +kernel
theorem d_HD_compose_63 : decode b_HD_compose 63 = .ok (.invokestatic 23, 3) := by decide +kernel
theorem d_HD_compose_66 : decode b_HD_compose 66 = .ok (.aload_n 0, 1) := by decide +kernel
theorem d_HD_compose_67 : decode b_HD_compose 67 = .ok (.getfield 9, 3) := by decide +kernel
theorem d_HD_compose_70 : decode b_HD_compose 70 = .ok (.bipush 56, 2) := by decide +kernel
theorem d_HD_compose_72 : decode b_HD_compose 72 = .ok (.bipush 8, 2) := by decide +kernel
theorem d_HD_compose_74 : decode b_HD_compose 74 = .ok (.lload 6, 2) := by decide +kernel
theorem d_HD_compose_76 : decode b_HD_compose 76 = .ok (.aload_n 0, 1) := by decide +kernel
theorem d_HD_compose_77 : decode b_HD_compose 77 = .ok (.getfield 9, 3) := by decide +kernel
theorem d_HD_compose_80 : decode b_HD_compose 80 = .ok (.iconst 0, 1) := by decide +kernel
theorem d_HD_compose_81 : decode b_HD_compose 81 = .ok (.bipush 56, 2) := by decide +kernel
theorem d_HD_compose_83 : decode b_HD_compose 83 = .ok (.invokestatic 31, 3) := by decide +kernel
theorem d_HD_compose_86 : decode b_HD_compose 86 = .ok (.invokestatic 23, 3) := by decide +kernel
theorem d_HD_compose_89 : decode b_HD_compose 89 = .ok (.return_, 1) := by decide +kernel
theorem d_HD_isZero_0 : decode b_HD_isZero 0 = .ok (.iload_n 1, 1) := by decide +kernel
theorem d_HD_isZero_1 : decode b_HD_isZero 1 = .ok (.istore_n 3, 1) := by decide +kernel
theorem d_HD_isZero_2 : decode b_HD_isZero 2 = .ok (.iload_n 3, 1) := by decide +kernel
theorem d_HD_isZero_3 : decode b_HD_isZero 3 = .ok (.iload_n 2, 1) := by decide +kernel
theorem d_HD_isZero_4 : decode b_HD_isZero 4 = .ok (.if_icmp .ge 22, 3) := by decide +kernel
theorem d_HD_isZero_7 : decode b_HD_isZero 7 = .ok (.aload_n 0, 1) := by decide +kernel
theorem d_HD_isZero_8 : decode b_HD_isZero 8 = .ok (.getfield 9, 3) := by decide +kernel
theorem d_HD_isZero_11 : decode b_HD_isZero 11 = .ok (.iload_n 3, 1) := by decide +kernel
theorem d_HD_isZero_12 : decode b_HD_isZero 12 = .ok (.invokestatic 39, 3) := by decide +kernel
theorem d_HD_isZero_15 : decode b_HD_isZero 15 = .ok (.ifCond .eq 5, 3) := by decide +kernel
theorem d_HD_isZero_18 : decode b_HD_isZero 18 = .ok (.iconst 0, 1) := by decide +kernel
theorem d_HD_isZero_19 : decode b_HD_isZero 19 = .ok (.ireturn, 1) := by decide +kernel
theorem d_HD_isZero_20 : decode b_HD_isZero 20 = .ok (.iinc 3 1, 3) := by decide +kernel
theorem d_HD_isZero_23 : decode b_HD_isZero 23 = .ok (.goto (-21), 3) := by decide +kernel
theorem d_HD_isZero_26 : decode b_HD_isZero 26 = .ok (.iconst 1, 1) := by decide +kernel
theorem d_HD_isZero_27 : decode b_HD_isZero 27 = .ok (.ireturn, 1) := by decide +kernel
theorem d_HD_hasForm_0 : decode b_HD_hasForm 0 = .ok (.aload_n 0, 1) := by decide +kernel
theorem d_HD_hasForm_1 : decode b_HD_hasForm 1 = .ok (.getfield 9, 3) := by decide +kernel
theorem d_HD_hasForm_4 : decode b_HD_hasForm 4 = .ok (.iconst 0, 1) := by decide +kernel
theorem d_HD_hasForm_5 : decode b_HD_hasForm 5 = .ok (.iconst 4, 1) := by decide +kernel
theorem d_HD_hasForm_6 : decode b_HD_hasForm 6 = .ok (.invokestatic 35, 3) := by decide +kernel
theorem d_HD_hasForm_9 : decode b_HD_hasForm 9 = .ok (.l2i, 1) := by decide +kernel
theorem d_HD_hasForm_10 : decode b_HD_hasForm 10 = .ok (.ldc 43, 2) := by decide +kernel
theorem d_HD_hasForm_12 : decode b_HD_hasForm 12 = .ok (.if_icmp .ne 54, 3) := by decide +kernel
theorem d_HD_hasForm_15 : decode b_HD_hasForm 15 = .ok (.aload_n 0, 1) := by decide +kernel
theorem d_HD_hasForm_16 : decode b_HD_hasForm 16 = .ok (.invokevirtual 44, 3) := by decide +kernel
theorem d_HD_hasForm_19 : decode b_HD_hasForm 19 = .ok (.iconst 1, 1) := by decide +kernel
theorem d_HD_hasForm_20 : decode b_HD_hasForm 20 = .ok (.if_icmp .lt 46, 3) := by decide +kernel
theorem d_HD_hasForm_23 : decode b_HD_hasForm 23 = .ok (.aload_n 0, 1) := by decide +kernel
theorem d_HD_hasForm_24 : decode b_HD_hasForm 24 = .ok (.invokevirtual 44, 3) := by decide +kernel
theorem d_HD_hasForm_27 : decode b_HD_hasForm 27 = .ok (.bipush 30, 2) := by decide +kernel
theorem d_HD_hasForm_29 : decode b_HD_hasForm 29 = .ok (.if_icmp .gt 37, 3) := by decide +kernel
theorem d_HD_hasForm_32 : decode b_HD_hasForm 32 = .ok (.aload_n 0, 1) := by decide +kernel
theorem d_HD_hasForm_33 : decode b_HD_hasForm 33 = .ok (.invokevirtual 48, 3) := by decide +kernel
theorem d_HD_hasForm_36 : decode b_HD_hasForm 36 = .ok (.iconst 4, 1) := by decide +kernel
theorem d_HD_hasForm_37 : decode b_HD_hasForm 37 = .ok (.if_icmp .ge 29, 3) := by decide +kernel
theorem d_HD_hasForm_40 : decode b_HD_hasForm 40 = .ok (.aload_n 0, 1) := by decide +kernel
theorem d_HD_hasForm_41 : decode b_HD_hasForm 41 = .ok (.bipush 13, 2) := by decide +kernel
theorem d_HD_hasForm_43 : decode b_HD_hasForm 43 = .ok (.bipush 20, 2) := by decide +kernel
theorem d_HD_hasForm_45 : decode b_HD_hasForm 45 = .ok (.invokevirtual 51, 3) := by decide +kernel
theorem d_HD_hasForm_48 : decode b_HD_hasForm 48 = .ok (.ifCond .eq 18, 3) := by decide +kernel
theorem d_HD_hasForm_51 : decode b_HD_hasForm 51 = .ok (.aload_n 0, 1) := by decide +kernel
theorem d_HD_hasForm_52 : decode b_HD_hasForm 52 = .ok (.bipush 28, 2) := by decide +kernel
theorem d_HD_hasForm_54 : decode b_HD_hasForm 54 = .ok (.bipush 56, 2) := by decide +kernel
theorem d_HD_hasForm_56 : decode b_HD_hasForm 56 = .ok (.invokevirtual 51, 3) := by decide +kernel
theorem d_HD_hasForm_59 : decode b_HD_hasForm 59 = .ok (.ifCond .eq 7, 3) := by decide +kernel
theorem d_HD_hasForm_62 : decode b_HD_hasForm 62 = .ok (.iconst 1, 1) := by decide +kernel
theorem d_HD_hasForm_63 : decode b_HD_hasForm 63 = .ok (.goto 4, 3) := by decide +kernel
theorem d_HD_hasForm_66 : decode b_HD_hasForm 66 = .ok (.iconst 0, 1) := by decide +kernel
theorem d_HD_hasForm_67 : decode b_HD_hasForm 67 = .ok (.ireturn, 1) := by decide +kernel
theorem d_HD_isSealedWith_0 : decode b_HD_isSealedWith 0 = .ok (.aload_n 0, 1) := by decide +kernel
theorem d_HD_isSealedWith_1 : decode b_HD_isSealedWith 1 = .ok (.getfield 9, 3) := by decide +kernel
theorem d_HD_isSealedWith_4 : decode b_HD_isSealedWith 4 = .ok (.bipush 56, 2) := by decide +kernel
theorem d_HD_isSealedWith_6 : decode b_HD_isSealedWith 6 = .ok (.bipush 8, 2) := by decide +kernel
theorem d_HD_isSealedWith_8 : decode b_HD_isSealedWith 8 = .ok (.invokestatic 35, 3) := by decide +kernel
theorem d_HD_isSealedWith_11 : decode b_HD_isSealedWith 11 = .ok (.lload_n 1, 1) := by decide +kernel
theorem d_HD_isSealedWith_12 : decode b_HD_isSealedWith 12 = .ok (.aload_n 0, 1) := by decide +kernel
theorem d_HD_isSealedWith_13 : decode b_HD_isSealedWith 13 = .ok (.getfield 9, 3) := by decide +kernel
theorem d_HD_isSealedWith_16 : decode b_HD_isSealedWith 16 = .ok (.iconst 0, 1) := by decide +kernel
theorem d_HD_isSealedWith_17 : decode b_HD_isSealedWith 17 = .ok (.bipush 56, 2) := by decide +kernel
theorem d_HD_isSealedWith_19 : decode b_HD_isSealedWith 19 = .ok (.invokestatic 31, 3) := by decide +kernel
theorem d_HD_isSealedWith_22 : decode b_HD_isSealedWith 22 = .ok (.lcmp, 1) := by decide +kernel
theorem d_HD_isSealedWith_23 : decode b_HD_isSealedWith 23 = .ok (.ifCond .ne 7, 3) := by decide +kernel
theorem d_HD_isSealedWith_26 : decode b_HD_isSealedWith 26 = .ok (.iconst 1, 1) := by decide +kernel
theorem d_HD_isSealedWith_27 : decode b_HD_isSealedWith 27 = .ok (.goto 4, 3) := by decide +kernel
theorem d_HD_isSealedWith_30 : decode b_HD_isSealedWith 30 = .ok (.iconst 0, 1) := by decide +kernel
theorem d_HD_isSealedWith_31 : decode b_HD_isSealedWith 31 = .ok (.ireturn, 1) := by decide +kernel
theorem d_MK_layBlock_0 : decode b_MK_layBlock 0 = .ok (.iconst 0, 1) := by decide +kernel
theorem d_MK_layBlock_1 : decode b_MK_layBlock 1 = .ok (.istore_n 3, 1) := by decide +kernel
theorem d_MK_layBlock_2 : decode b_MK_layBlock 2 = .ok (.iload_n 3, 1) := by decide +kernel
theorem d_MK_layBlock_3 : decode b_MK_layBlock 3 = .ok (.bipush 64, 2) := by decide +kernel
theorem d_MK_layBlock_5 : decode b_MK_layBlock 5 = .ok (.if_icmp .ge 24, 3) := by decide +kernel
theorem d_MK_layBlock_8 : decode b_MK_layBlock 8 = .ok (.aload_n 2, 1) := by decide +kernel
theorem d_MK_layBlock_9 : decode b_MK_layBlock 9 = .ok (.iload_n 3, 1) := by decide +kernel
theorem d_MK_layBlock_10 : decode b_MK_layBlock 10 = .ok (.aload_n 0, 1) := by decide +kernel
theorem d_MK_layBlock_11 : decode b_MK_layBlock 11 = .ok (.getfield 21, 3) := by decide +kernel
theorem d_MK_layBlock_14 : decode b_MK_layBlock 14 = .ok (.iconst 5, 1) := by decide +kernel
theorem d_MK_layBlock_15 : decode b_MK_layBlock 15 = .ok (.iload_n 1, 1) := by decide +kernel
theorem d_MK_layBlock_16 : decode b_MK_layBlock 16 = .ok (.imul, 1) := by decide +kernel
theorem d_MK_layBlock_17 : decode b_MK_layBlock 17 = .ok (.iadd, 1) := by decide +kernel
theorem d_MK_layBlock_18 : decode b_MK_layBlock 18 = .ok (.iload_n 3, 1) := by decide +kernel
theorem d_MK_layBlock_19 : decode b_MK_layBlock 19 = .ok (.iadd, 1) := by decide +kernel
theorem d_MK_layBlock_20 : decode b_MK_layBlock 20 = .ok (.invokestatic 24, 3) := by decide +kernel
theorem d_MK_layBlock_23 : decode b_MK_layBlock 23 = .ok (.iinc 3 1, 3) := by decide +kernel
theorem d_MK_layBlock_26 : decode b_MK_layBlock 26 = .ok (.goto (-24), 3) := by decide +kernel
theorem d_MK_layBlock_29 : decode b_MK_layBlock 29 = .ok (.return_, 1) := by decide +kernel
theorem d_MK_bodyDigest_0 : decode b_MK_bodyDigest 0 = .ok (.aload_n 0, 1) := by decide +kernel
theorem d_MK_bodyDigest_1 : decode b_MK_bodyDigest 1 = .ok (.getfield 9, 3) := by decide +kernel
theorem d_MK_bodyDigest_4 : decode b_MK_bodyDigest 4 = .ok (.invokestatic 28, 3) := by decide +kernel
theorem d_MK_bodyDigest_7 : decode b_MK_bodyDigest 7 = .ok (.lstore_n 2, 1) := by decide +kernel
theorem d_MK_bodyDigest_8 : decode b_MK_bodyDigest 8 = .ok (.iconst 0, 1) := by decide +kernel
theorem d_MK_bodyDigest_9 : decode b_MK_bodyDigest 9 = .ok (.istore 4, 2) := by decide +kernel
theorem d_MK_bodyDigest_11 : decode b_MK_bodyDigest 11 = .ok (.iload 4, 2) := by decide +kernel
theorem d_MK_bodyDigest_13 : decode b_MK_bodyDigest 13 = .ok (.aload_n 0, 1) := by decide +kernel
theorem d_MK_bodyDigest_14 : decode b_MK_bodyDigest 14 = .ok (.getfield 15, 3) := by decide +kernel
theorem d_MK_bodyDigest_17 : decode b_MK_bodyDigest 17 = .ok (.if_icmp .ge 25, 3) := by decide +kernel
theorem d_MK_bodyDigest_20 : decode b_MK_bodyDigest 20 = .ok (.aload_n 0, 1) := by decide +kernel
theorem d_MK_bodyDigest_21 : decode b_MK_bodyDigest 21 = .ok (.iload 4, 2) := by decide +kernel
theorem d_MK_bodyDigest_23 : decode b_MK_bodyDigest 23 = .ok (.aload_n 1, 1) := by decide +kernel
theorem d_MK_bodyDigest_24 : decode b_MK_bodyDigest 24 = .ok (.invokevirtual 32, 3) := by decide +kernel
theorem d_MK_bodyDigest_27 : decode b_MK_bodyDigest 27 = .ok (.lload_n 2, 1) := by decide +kernel
theorem d_MK_bodyDigest_28 : decode b_MK_bodyDigest 28 = .ok (.aload_n 1, 1) := by decide +kernel
theorem d_MK_bodyDigest_29 : decode b_MK_bodyDigest 29 = .ok (.iconst 0, 1) := by decide +kernel
theorem d_MK_bodyDigest_30 : decode b_MK_bodyDigest 30 = .ok (.bipush 64, 2) := by decide +kernel
theorem d_MK_bodyDigest_32 : decode b_MK_bodyDigest 32 = .ok (.invokestatic 36, 3) := by decide +kernel
theorem d_MK_bodyDigest_35 : decode b_MK_bodyDigest 35 = .ok (.lstore_n 2, 1) := by decide +kernel
theorem d_MK_bodyDigest_36 : decode b_MK_bodyDigest 36 = .ok (.iinc 4 1, 3) := by decide +kernel
theorem d_MK_bodyDigest_39 : decode b_MK_bodyDigest 39 = .ok (.goto (-28), 3) := by decide +kernel
theorem d_MK_bodyDigest_42 : decode b_MK_bodyDigest 42 = .ok (.lload_n 2, 1) := by decide +kernel
theorem d_MK_bodyDigest_43 : decode b_MK_bodyDigest 43 = .ok (.lreturn, 1) := by decide +kernel
theorem d_LG_isWhole_0 : decode b_LG_isWhole 0 = .ok (.aload_n 0, 1) := by decide +kernel
theorem d_LG_isWhole_1 : decode b_LG_isWhole 1 = .ok (.getfield 40, 3) := by decide +kernel
theorem d_LG_isWhole_4 : decode b_LG_isWhole 4 = .ok (.getfield 52, 3) := by decide +kernel
theorem d_LG_isWhole_7 : decode b_LG_isWhole 7 = .ok (.iload_n 1, 1) := by decide +kernel
theorem d_LG_isWhole_8 : decode b_LG_isWhole 8 = .ok (.iconst 5, 1) := by decide +kernel
theorem d_LG_isWhole_9 : decode b_LG_isWhole 9 = .ok (.iadd, 1) := by decide +kernel
theorem d_LG_isWhole_10 : decode b_LG_isWhole 10 = .ok (.invokestatic 57, 3) := by decide +kernel
theorem d_LG_isWhole_13 : decode b_LG_isWhole 13 = .ok (.istore_n 2, 1) := by decide +kernel
theorem d_LG_isWhole_14 : decode b_LG_isWhole 14 = .ok (.aload_n 0, 1) := by decide +kernel
theorem d_LG_isWhole_15 : decode b_LG_isWhole 15 = .ok (.getfield 40, 3) := by decide +kernel
theorem d_LG_isWhole_18 : decode b_LG_isWhole 18 = .ok (.getfield 52, 3) := by decide +kernel
theorem d_LG_isWhole_21 : decode b_LG_isWhole 21 = .ok (.iload_n 1, 1) := by decide +kernel
theorem d_LG_isWhole_22 : decode b_LG_isWhole 22 = .ok (.invokestatic 57, 3) := by decide +kernel
theorem d_LG_isWhole_25 : decode b_LG_isWhole 25 = .ok (.ifCond .ne 73, 3) := by decide +kernel
theorem d_LG_isWhole_28 : decode b_LG_isWhole 28 = .ok (.aload_n 0, 1) := by decide +kernel
theorem d_LG_isWhole_29 : decode b_LG_isWhole 29 = .ok (.getfield 40, 3) := by decide +kernel
theorem d_LG_isWhole_32 : decode b_LG_isWhole 32 = .ok (.getfield 52, 3) := by decide +kernel
theorem d_LG_isWhole_35 : decode b_LG_isWhole 35 = .ok (.iload_n 1, 1) := by decide +kernel
theorem d_LG_isWhole_36 : decode b_LG_isWhole 36 = .ok (.bipush 15, 2) := by decide +kernel
theorem d_LG_isWhole_38 : decode b_LG_isWhole 38 = .ok (.iadd, 1) := by decide +kernel
theorem d_LG_isWhole_39 : decode b_LG_isWhole 39 = .ok (.invokestatic 57, 3) := by decide +kernel
theorem d_LG_isWhole_42 : decode b_LG_isWhole 42 = .ok (.bipush 90, 2) := by decide +kernel
theorem d_LG_isWhole_44 : decode b_LG_isWhole 44 = .ok (.if_icmp .ne 54, 3) := by decide +kernel
theorem d_LG_isWhole_47 : decode b_LG_isWhole 47 = .ok (.aload_n 0, 1) := by decide +kernel
theorem d_LG_isWhole_48 : decode b_LG_isWhole 48 = .ok (.getfield 40, 3) := by decide +kernel
theorem d_LG_isWhole_51 : decode b_LG_isWhole 51 = .ok (.getfield 52, 3) := by decide +kernel
theorem d_LG_isWhole_54 : decode b_LG_isWhole 54 = .ok (.iload_n 1, 1) := by decide +kernel
theorem d_LG_isWhole_55 : decode b_LG_isWhole 55 = .ok (.iconst 4, 1) := by decide +kernel
theorem d_LG_isWhole_56 : decode b_LG_isWhole 56 = .ok (.iadd, 1) := by decide +kernel
theorem d_LG_isWhole_57 : decode b_LG_isWhole 57 = .ok (.invokestatic 57, 3) := by decide +kernel
theorem d_LG_isWhole_60 : decode b_LG_isWhole 60 = .ok (.iconst 2, 1) := by decide +kernel
theorem d_LG_isWhole_61 : decode b_LG_isWhole 61 = .ok (.if_icmp .ge 37, 3) := by decide +kernel
theorem d_LG_isWhole_64 : decode b_LG_isWhole 64 = .ok (.iload_n 2, 1) := by decide +kernel
theorem d_LG_isWhole_65 : decode b_LG_isWhole 65 = .ok (.iconst 2, 1) := by decide +kernel
theorem d_LG_isWhole_66 : decode b_LG_isWhole 66 = .ok (.if_icmp .lt 10, 3) := by decide +kernel
theorem d_LG_isWhole_69 : decode b_LG_isWhole 69 = .ok (.iload_n 2, 1) := by decide +kernel
theorem d_LG_isWhole_70 : decode b_LG_isWhole 70 = .ok (.sipush 255, 3) := by decide +kernel
theorem d_LG_isWhole_73 : decode b_LG_isWhole 73 = .ok (.if_icmp .ne 25, 3) := by decide +kernel
theorem d_LG_isWhole_76 : decode b_LG_isWhole 76 = .ok (.aload_n 0, 1) := by decide +kernel
theorem d_LG_isWhole_77 : decode b_LG_isWhole 77 = .ok (.getfield 40, 3) := by decide +kernel
theorem d_LG_isWhole_80 : decode b_LG_isWhole 80 = .ok (.getfield 52, 3) := by decide +kernel
theorem d_LG_isWhole_83 : decode b_LG_isWhole 83 = .ok (.iload_n 1, 1) := by decide +kernel
theorem d_LG_isWhole_84 : decode b_LG_isWhole 84 = .ok (.bipush 6, 2) := by decide +kernel
theorem d_LG_isWhole_86 : decode b_LG_isWhole 86 = .ok (.iadd, 1) := by decide +kernel
theorem d_LG_isWhole_87 : decode b_LG_isWhole 87 = .ok (.invokestatic 57, 3) := by decide +kernel
theorem d_LG_isWhole_90 : decode b_LG_isWhole 90 = .ok (.iconst 3, 1) := by decide +kernel
theorem d_LG_isWhole_91 : decode b_LG_isWhole 91 = .ok (.if_icmp .gt 7, 3) := by decide +kernel
theorem d_LG_isWhole_94 : decode b_LG_isWhole 94 = .ok (.iconst 1, 1) := by decide +kernel
theorem d_LG_isWhole_95 : decode b_LG_isWhole 95 = .ok (.goto 4, 3) := by decide +kernel
theorem d_LG_isWhole_98 : decode b_LG_isWhole 98 = .ok (.iconst 0, 1) := by decide +kernel
theorem d_LG_isWhole_99 : decode b_LG_isWhole 99 = .ok (.ireturn, 1) := by decide +kernel
theorem d_LG_isBlank_0 : decode b_LG_isBlank 0 = .ok (.iconst 0, 1) := by decide +kernel
theorem d_LG_isBlank_1 : decode b_LG_isBlank 1 = .ok (.istore_n 2, 1) := by decide +kernel
theorem d_LG_isBlank_2 : decode b_LG_isBlank 2 = .ok (.iload_n 2, 1) := by decide +kernel
theorem d_LG_isBlank_3 : decode b_LG_isBlank 3 = .ok (.bipush 16, 2) := by decide +kernel
theorem d_LG_isBlank_5 : decode b_LG_isBlank 5 = .ok (.if_icmp .ge 30, 3) := by decide +kernel
theorem d_LG_isBlank_8 : decode b_LG_isBlank 8 = .ok (.aload_n 0, 1) := by decide +kernel
theorem d_LG_isBlank_9 : decode b_LG_isBlank 9 = .ok (.getfield 40, 3) := by decide +kernel
theorem d_LG_isBlank_12 : decode b_LG_isBlank 12 = .ok (.getfield 52, 3) := by decide +kernel
theorem d_LG_isBlank_15 : decode b_LG_isBlank 15 = .ok (.iload_n 1, 1) := by decide +kernel
theorem d_LG_isBlank_16 : decode b_LG_isBlank 16 = .ok (.iload_n 2, 1) := by decide +kernel
theorem d_LG_isBlank_17 : decode b_LG_isBlank 17 = .ok (.iadd, 1) := by decide +kernel
theorem d_LG_isBlank_18 : decode b_LG_isBlank 18 = .ok (.invokestatic 57, 3) := by decide +kernel
theorem d_LG_isBlank_21 : decode b_LG_isBlank 21 = .ok (.sipush 255, 3) := by decide +kernel
theorem d_LG_isBlank_24 : decode b_LG_isBlank 24 = .ok (.if_icmp .eq 5, 3) := by decide +kernel
theorem d_LG_isBlank_27 : decode b_LG_isBlank 27 = .ok (.iconst 0, 1) := by decide +kernel
theorem d_LG_isBlank_28 : decode b_LG_isBlank 28 = .ok (.ireturn, 1) := by decide +kernel
theorem d_LG_isBlank_29 : decode b_LG_isBlank 29 = .ok (.iinc 2 1, 3) := by decide +kernel
theorem d_LG_isBlank_32 : decode b_LG_isBlank 32 = .ok (.goto (-30), 3) := by decide +kernel
theorem d_LG_isBlank_35 : decode b_LG_isBlank 35 = .ok (.iconst 1, 1) := by decide +kernel
theorem d_LG_isBlank_36 : decode b_LG_isBlank 36 = .ok (.ireturn, 1) := by decide +kernel
theorem d_LG_blankLineBehindNewest_0 : decode b_LG_blankLineBehindNewest 0 = .ok (.aload_n 0, 1) := by decide +kernel
theorem d_LG_blankLineBehindNewest_1 : decode b_LG_blankLineBehindNewest 1 = .ok (.getfield 19, 3) := by decide +kernel
theorem d_LG_blankLineBehindNewest_4 : decode b_LG_blankLineBehindNewest 4 = .ok (.bipush 64, 2) := by decide +kernel
theorem d_LG_blankLineBehindNewest_6 : decode b_LG_blankLineBehindNewest 6 = .ok (.idiv, 1) := by decide +kernel
theorem d_LG_blankLineBehindNewest_7 : decode b_LG_blankLineBehindNewest 7 = .ok (.iconst 1, 1) := by decide +kernel
theorem d_LG_blankLineBehindNewest_8 : decode b_LG_blankLineBehindNewest 8 = .ok (.iadd, 1) := by decide +kernel
theorem d_LG_blankLineBehindNewest_9 : decode b_LG_blankLineBehindNewest 9 = .ok (.bipush 64, 2) := by decide +kernel
theorem d_LG_blankLineBehindNewest_11 : decode b_LG_blankLineBehindNewest 11 = .ok (.imul, 1) := by decide +kernel
theorem d_LG_blankLineBehindNewest_12 : decode b_LG_blankLineBehindNewest 12 = .ok (.istore_n 1, 1) := by decide +kernel
theorem d_LG_blankLineBehindNewest_13 : decode b_LG_blankLineBehindNewest 13 = .ok (.aload_n 0, 1) := by decide +kernel
theorem d_LG_blankLineBehindNewest_14 : decode b_LG_blankLineBehindNewest 14 = .ok (.getfield 19, 3) := by decide +kernel
theorem d_LG_blankLineBehindNewest_17 : decode b_LG_blankLineBehindNewest 17 = .ok (.bipush 16, 2) := by decide +kernel
theorem d_LG_blankLineBehindNewest_19 : decode b_LG_blankLineBehindNewest 19 = .ok (.iadd, 1) := by decide +kernel
theorem d_LG_blankLineBehindNewest_20 : decode b_LG_blankLineBehindNewest 20 = .ok (.istore_n 2, 1) := by decide +kernel
theorem d_LG_blankLineBehindNewest_21 : decode b_LG_blankLineBehindNewest 21 = .ok (.iload_n 2, 1) := by decide +kernel
theorem d_LG_blankLineBehindNewest_22 : decode b_LG_blankLineBehindNewest 22 = .ok (.iload_n 1, 1) := by decide +kernel
theorem d_LG_blankLineBehindNewest_23 : decode b_LG_blankLineBehindNewest 23 = .ok (.if_icmp .ge 19, 3) := by decide +kernel
theorem d_LG_blankLineBehindNewest_26 : decode b_LG_blankLineBehindNewest 26 = .ok (.aload_n 0, 1) := by decide +kernel
theorem d_LG_blankLineBehindNewest_27 : decode b_LG_blankLineBehindNewest 27 = .ok (.iload_n 2, 1) := by decide +kernel
theorem d_LG_blankLineBehindNewest_28 : decode b_LG_blankLineBehindNewest 28 = .ok (.invokevirtual 107, 3) := by decide +kernel
theorem d_LG_blankLineBehindNewest_31 : decode b_LG_blankLineBehindNewest 31 = .ok (.ifCond .eq 5, 3) := by decide +kernel
theorem d_LG_blankLineBehindNewest_34 : decode b_LG_blankLineBehindNewest 34 = .ok (.iload_n 2, 1) := by decide +kernel
theorem d_LG_blankLineBehindNewest_35 : decode b_LG_blankLineBehindNewest 35 = .ok (.ireturn, 1) := by decide +kernel
theorem d_LG_blankLineBehindNewest_36 : decode b_LG_blankLineBehindNewest 36 = .ok (.iinc 2 16, 3) := by decide +kernel
theorem d_LG_blankLineBehindNewest_39 : decode b_LG_blankLineBehindNewest 39 = .ok (.goto (-18), 3) := by decide +kernel
theorem d_LG_blankLineBehindNewest_42 : decode b_LG_blankLineBehindNewest 42 = .ok (.iconst (-1), 1) := by decide +kernel
theorem d_LG_blankLineBehindNewest_43 : decode b_LG_blankLineBehindNewest 43 = .ok (.ireturn, 1) := by decide +kernel
theorem d_LG_look_0 : decode b_LG_look 0 = .ok (.aload_n 0, 1) := by decide +kernel
theorem d_LG_look_1 : decode b_LG_look 1 = .ok (.iconst (-1), 1) := by decide +kernel
theorem d_LG_look_2 : decode b_LG_look 2 = .ok (.putfield 19, 3) := by decide +kernel
theorem d_LG_look_5 : decode b_LG_look 5 = .ok (.aload_n 0, 1) := by decide +kernel
theorem d_LG_look_6 : decode b_LG_look 6 = .ok (.iconst 0, 1) := by decide +kernel
theorem d_LG_look_7 : decode b_LG_look 7 = .ok (.putfield 22, 3) := by decide +kernel
theorem d_LG_look_10 : decode b_LG_look 10 = .ok (.iconst 0, 1) := by decide +kernel
theorem d_LG_look_11 : decode b_LG_look 11 = .ok (.istore_n 1, 1) := by decide +kernel
theorem d_LG_look_12 : decode b_LG_look 12 = .ok (.iload_n 1, 1) := by decide +kernel
theorem d_LG_look_13 : decode b_LG_look 13 = .ok (.sipush 128, 3) := by decide +kernel
theorem d_LG_look_16 : decode b_LG_look 16 = .ok (.if_icmp .ge 62, 3) := by decide +kernel
theorem d_LG_look_19 : decode b_LG_look 19 = .ok (.aload_n 0, 1) := by decide +kernel
theorem d_LG_look_20 : decode b_LG_look 20 = .ok (.getfield 40, 3) := by decide +kernel
theorem d_LG_look_23 : decode b_LG_look 23 = .ok (.getfield 52, 3) := by decide +kernel
theorem d_LG_look_26 : decode b_LG_look 26 = .ok (.iload_n 1, 1) := by decide +kernel
theorem d_LG_look_27 : decode b_LG_look 27 = .ok (.iconst 0, 1) := by decide +kernel
theorem d_LG_look_28 : decode b_LG_look 28 = .ok (.iadd, 1) := by decide +kernel
theorem d_LG_look_29 : decode b_LG_look 29 = .ok (.iconst 4, 1) := by decide +kernel
theorem d_LG_look_30 : decode b_LG_look 30 = .ok (.invokestatic 68, 3) := by decide +kernel
theorem d_LG_look_33 : decode b_LG_look 33 = .ok (.l2i, 1) := by decide +kernel
theorem d_LG_look_34 : decode b_LG_look 34 = .ok (.istore_n 2, 1) := by decide +kernel
theorem d_LG_look_35 : decode b_LG_look 35 = .ok (.aload_n 0, 1) := by decide +kernel
theorem d_LG_look_36 : decode b_LG_look 36 = .ok (.iload_n 1, 1) := by decide +kernel
theorem d_LG_look_37 : decode b_LG_look 37 = .ok (.invokevirtual 72, 3) := by decide +kernel
theorem d_LG_look_40 : decode b_LG_look 40 = .ok (.ifCond .eq 32, 3) := by decide +kernel
theorem d_LG_look_43 : decode b_LG_look 43 = .ok (.aload_n 0, 1) := by decide +kernel
theorem d_LG_look_44 : decode b_LG_look 44 = .ok (.getfield 19, 3) := by decide +kernel
theorem d_LG_look_47 : decode b_LG_look 47 = .ok (.iconst (-1), 1) := by decide +kernel
theorem d_LG_look_48 : decode b_LG_look 48 = .ok (.if_icmp .eq 14, 3) := by decide +kernel
theorem d_LG_look_51 : decode b_LG_look 51 = .ok (.iload_n 2, 1) := by decide +kernel
theorem d_LG_look_52 : decode b_LG_look 52 = .ok (.aload_n 0, 1) := by decide +kernel
theorem d_LG_look_53 : decode b_LG_look 53 = .ok (.getfield 22, 3) := by decide +kernel
theorem d_LG_look_56 : decode b_LG_look 56 = .ok (.invokestatic 76, 3) := by decide +kernel
theorem d_LG_look_59 : decode b_LG_look 59 = .ok (.ifCond .le 13, 3) := by decide +kernel
theorem d_LG_look_62 : decode b_LG_look 62 = .ok (.aload_n 0, 1) := by decide +kernel
theorem d_LG_look_63 : decode b_LG_look 63 = .ok (.iload_n 1, 1) := by decide +kernel
theorem d_LG_look_64 : decode b_LG_look 64 = .ok (.putfield 19, 3) := by decide +kernel
theorem d_LG_look_67 : decode b_LG_look 67 = .ok (.aload_n 0, 1) := by decide +kernel
theorem d_LG_look_68 : decode b_LG_look 68 = .ok (.iload_n 2, 1) := by decide +kernel
theorem d_LG_look_69 : decode b_LG_look 69 = .ok (.putfield 22, 3) := by decide +kernel
theorem d_LG_look_72 : decode b_LG_look 72 = .ok (.iinc 1 16, 3) := by decide +kernel
theorem d_LG_look_75 : decode b_LG_look 75 = .ok (.goto (-63), 3) := by decide +kernel
theorem d_LG_look_78 : decode b_LG_look 78 = .ok (.aload_n 0, 1) := by decide +kernel
theorem d_LG_look_79 : decode b_LG_look 79 = .ok (.getfield 19, 3) := by decide +kernel
theorem d_LG_look_82 : decode b_LG_look 82 = .ok (.iconst (-1), 1) := by decide +kernel
theorem d_LG_look_83 : decode b_LG_look 83 = .ok (.if_icmp .eq 7, 3) := by decide +kernel
theorem d_LG_look_86 : decode b_LG_look 86 = .ok (.iconst 1, 1) := by decide +kernel
theorem d_LG_look_87 : decode b_LG_look 87 = .ok (.goto 4, 3) := by decide +kernel
theorem d_LG_look_90 : decode b_LG_look 90 = .ok (.iconst 0, 1) := by decide +kernel
theorem d_LG_look_91 : decode b_LG_look 91 = .ok (.istore_n 1, 1) := by decide +kernel
theorem d_LG_look_92 : decode b_LG_look 92 = .ok (.iload_n 1, 1) := by decide +kernel
theorem d_LG_look_93 : decode b_LG_look 93 = .ok (.ifCond .eq 22, 3) := by decide +kernel
theorem d_LG_look_96 : decode b_LG_look 96 = .ok (.aload_n 0, 1) := by decide +kernel
theorem d_LG_look_97 : decode b_LG_look 97 = .ok (.getfield 40, 3) := by decide +kernel
theorem d_LG_look_100 : decode b_LG_look 100 = .ok (.getfield 52, 3) := by decide +kernel
theorem d_LG_look_103 : decode b_LG_look 103 = .ok (.aload_n 0, 1) := by decide +kernel
theorem d_LG_look_104 : decode b_LG_look 104 = .ok (.getfield 19, 3) := by decide +kernel
theorem d_LG_look_107 : decode b_LG_look 107 = .ok (.iconst 5, 1) := by decide +kernel
theorem d_LG_look_108 : decode b_LG_look 108 = .ok (.iadd, 1) := by decide +kernel
theorem d_LG_look_109 : decode b_LG_look 109 = .ok (.invokestatic 57, 3) := by decide +kernel
theorem d_LG_look_112 : decode b_LG_look 112 = .ok (.goto 6, 3) := by decide +kernel
theorem d_LG_look_115 : decode b_LG_look 115 = .ok (.sipush 255, 3) := by decide +kernel
theorem d_LG_look_118 : decode b_LG_look 118 = .ok (.istore_n 2, 1) := by decide +kernel
theorem d_LG_look_119 : decode b_LG_look 119 = .ok (.aload_n 0, 1) := by decide +kernel
theorem d_LG_look_120 : decode b_LG_look 120 = .ok (.iload_n 2, 1) := by decide +kernel
theorem d_LG_look_121 : decode b_LG_look 121 = .ok (.sipush 255, 3) := by decide +kernel
