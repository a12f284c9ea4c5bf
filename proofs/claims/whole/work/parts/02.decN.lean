theorem d_N_init_0 : decode b_N_init 0 = .ok (.aload_n 0, 1) := by decide +kernel
theorem d_N_init_1 : decode b_N_init 1 = .ok (.invokespecial 3, 3) := by decide +kernel
theorem d_N_init_4 : decode b_N_init 4 = .ok (.return_, 1) := by decide +kernel
theorem d_N_condition_0 : decode b_N_condition 0 = .ok (.aload_n 0, 1) := by decide +kernel
theorem d_N_condition_1 : decode b_N_condition 1 = .ok (.getfield 9, 3) := by decide +kernel
theorem d_N_condition_4 : decode b_N_condition 4 = .ok (.ifCond .eq 5, 3) := by decide +kernel
theorem d_N_condition_7 : decode b_N_condition 7 = .ok (.iconst 2, 1) := by decide +kernel
theorem d_N_condition_8 : decode b_N_condition 8 = .ok (.ireturn, 1) := by decide +kernel
theorem d_N_condition_9 : decode b_N_condition 9 = .ok (.aload_n 0, 1) := by decide +kernel
theorem d_N_condition_10 : decode b_N_condition 10 = .ok (.getfield 15, 3) := by decide +kernel
theorem d_N_condition_13 : decode b_N_condition 13 = .ok (.bipush 127, 2) := by decide +kernel
theorem d_N_condition_15 : decode b_N_condition 15 = .ok (.if_icmp .gt 12, 3) := by decide +kernel
theorem d_N_condition_18 : decode b_N_condition 18 = .ok (.aload_n 0, 1) := by decide +kernel
theorem d_N_condition_19 : decode b_N_condition 19 = .ok (.getfield 19, 3) := by decide +kernel
theorem d_N_condition_22 : decode b_N_condition 22 = .ok (.bipush 127, 2) := by decide +kernel
theorem d_N_condition_24 : decode b_N_condition 24 = .ok (.if_icmp .le 7, 3) := by decide +kernel
theorem d_N_condition_27 : decode b_N_condition 27 = .ok (.iconst 1, 1) := by decide +kernel
theorem d_N_condition_28 : decode b_N_condition 28 = .ok (.goto 4, 3) := by decide +kernel
theorem d_N_condition_31 : decode b_N_condition 31 = .ok (.iconst 0, 1) := by decide +kernel
theorem d_N_condition_32 : decode b_N_condition 32 = .ok (.istore_n 1, 1) := by decide +kernel
theorem d_N_condition_33 : decode b_N_condition 33 = .ok (.iload_n 1, 1) := by decide +kernel
theorem d_N_condition_34 : decode b_N_condition 34 = .ok (.ifCond .eq 7, 3) := by decide +kernel
theorem d_N_condition_37 : decode b_N_condition 37 = .ok (.iconst 1, 1) := by decide +kernel
theorem d_N_condition_38 : decode b_N_condition 38 = .ok (.goto 4, 3) := by decide +kernel
theorem d_N_condition_41 : decode b_N_condition 41 = .ok (.iconst 0, 1) := by decide +kernel
theorem d_N_condition_42 : decode b_N_condition 42 = .ok (.ireturn, 1) := by decide +kernel
theorem d_N_undergoBoth_0 : decode b_N_undergoBoth 0 = .ok (.aload_n 0, 1) := by decide +kernel
theorem d_N_undergoBoth_1 : decode b_N_undergoBoth 1 = .ok (.getfield 22, 3) := by decide +kernel
theorem d_N_undergoBoth_4 : decode b_N_undergoBoth 4 = .ok (.ifCond .eq 14, 3) := by decide +kernel
theorem d_N_undergoBoth_7 : decode b_N_undergoBoth 7 = .ok (.aload_n 0, 1) := by decide +kernel
theorem d_N_undergoBoth_8 : decode b_N_undergoBoth 8 = .ok (.getfield 25, 3) := by decide +kernel
theorem d_N_undergoBoth_11 : decode b_N_undergoBoth 11 = .ok (.ifCond .ne 7, 3) := by decide +kernel
theorem d_N_undergoBoth_14 : decode b_N_undergoBoth 14 = .ok (.iconst 1, 1) := by decide +kernel
theorem d_N_undergoBoth_15 : decode b_N_undergoBoth 15 = .ok (.goto 4, 3) := by decide +kernel
theorem d_N_undergoBoth_18 : decode b_N_undergoBoth 18 = .ok (.iconst 0, 1) := by decide +kernel
theorem d_N_undergoBoth_19 : decode b_N_undergoBoth 19 = .ok (.istore_n 3, 1) := by decide +kernel
theorem d_N_undergoBoth_20 : decode b_N_undergoBoth 20 = .ok (.aload_n 0, 1) := by decide +kernel
theorem d_N_undergoBoth_21 : decode b_N_undergoBoth 21 = .ok (.iload_n 1, 1) := by decide +kernel
theorem d_N_undergoBoth_22 : decode b_N_undergoBoth 22 = .ok (.iload_n 3, 1) := by decide +kernel
theorem d_N_undergoBoth_23 : decode b_N_undergoBoth 23 = .ok (.invokevirtual 28, 3) := by decide +kernel
theorem d_N_undergoBoth_26 : decode b_N_undergoBoth 26 = .ok (.iload_n 1, 1) := by decide +kernel
theorem d_N_undergoBoth_27 : decode b_N_undergoBoth 27 = .ok (.invokestatic 32, 3) := by decide +kernel
theorem d_N_undergoBoth_30 : decode b_N_undergoBoth 30 = .ok (.ifCond .eq 10, 3) := by decide +kernel
theorem d_N_undergoBoth_33 : decode b_N_undergoBoth 33 = .ok (.iload_n 2, 1) := by decide +kernel
theorem d_N_undergoBoth_34 : decode b_N_undergoBoth 34 = .ok (.invokestatic 32, 3) := by decide +kernel
theorem d_N_undergoBoth_37 : decode b_N_undergoBoth 37 = .ok (.ifCond .ne 7, 3) := by decide +kernel
theorem d_N_undergoBoth_40 : decode b_N_undergoBoth 40 = .ok (.iconst 1, 1) := by decide +kernel
theorem d_N_undergoBoth_41 : decode b_N_undergoBoth 41 = .ok (.goto 4, 3) := by decide +kernel
theorem d_N_undergoBoth_44 : decode b_N_undergoBoth 44 = .ok (.iconst 0, 1) := by decide +kernel
theorem d_N_undergoBoth_45 : decode b_N_undergoBoth 45 = .ok (.istore 4, 2) := by decide +kernel
theorem d_N_undergoBoth_47 : decode b_N_undergoBoth 47 = .ok (.iload 4, 2) := by decide +kernel
theorem d_N_undergoBoth_49 : decode b_N_undergoBoth 49 = .ok (.ifCond .eq 16, 3) := by decide +kernel
theorem d_N_undergoBoth_52 : decode b_N_undergoBoth 52 = .ok (.aload_n 0, 1) := by decide +kernel
theorem d_N_undergoBoth_53 : decode b_N_undergoBoth 53 = .ok (.getfield 9, 3) := by decide +kernel
theorem d_N_undergoBoth_56 : decode b_N_undergoBoth 56 = .ok (.ifCond .ne 9, 3) := by decide +kernel
theorem d_N_undergoBoth_59 : decode b_N_undergoBoth 59 = .ok (.aload_n 0, 1) := by decide +kernel
theorem d_N_undergoBoth_60 : decode b_N_undergoBoth 60 = .ok (.iload_n 2, 1) := by decide +kernel
theorem d_N_undergoBoth_61 : decode b_N_undergoBoth 61 = .ok (.iload_n 3, 1) := by decide +kernel
theorem d_N_undergoBoth_62 : decode b_N_undergoBoth 62 = .ok (.invokevirtual 28, 3) := by decide +kernel
theorem d_N_undergoBoth_65 : decode b_N_undergoBoth 65 = .ok (.return_, 1) := by decide +kernel
theorem d_N_undergo_0 : decode b_N_undergo 0 = .ok (.aload_n 0, 1) := by decide +kernel
theorem d_N_undergo_1 : decode b_N_undergo 1 = .ok (.iload_n 2, 1) := by decide +kernel
theorem d_N_undergo_2 : decode b_N_undergo 2 = .ok (.putfield 22, 3) := by decide +kernel
theorem d_N_undergo_5 : decode b_N_undergo 5 = .ok (.aload_n 0, 1) := by decide +kernel
theorem d_N_undergo_6 : decode b_N_undergo 6 = .ok (.iload_n 1, 1) := by decide +kernel
theorem d_N_undergo_7 : decode b_N_undergo 7 = .ok (.invokevirtual 36, 3) := by decide +kernel
theorem d_N_undergo_10 : decode b_N_undergo 10 = .ok (.aload_n 0, 1) := by decide +kernel
theorem d_N_undergo_11 : decode b_N_undergo 11 = .ok (.getfield 40, 3) := by decide +kernel
theorem d_N_undergo_14 : decode b_N_undergo 14 = .ok (.ifCond .eq 24, 3) := by decide +kernel
theorem d_N_undergo_17 : decode b_N_undergo 17 = .ok (.iload_n 2, 1) := by decide +kernel
theorem d_N_undergo_18 : decode b_N_undergo 18 = .ok (.ifCond .eq 20, 3) := by decide +kernel
theorem d_N_undergo_21 : decode b_N_undergo 21 = .ok (.iload_n 1, 1) := by decide +kernel
theorem d_N_undergo_22 : decode b_N_undergo 22 = .ok (.invokestatic 32, 3) := by decide +kernel
theorem d_N_undergo_25 : decode b_N_undergo 25 = .ok (.ifCond .eq 13, 3) := by decide +kernel
theorem d_N_undergo_28 : decode b_N_undergo 28 = .ok (.aload_n 0, 1) := by decide +kernel
theorem d_N_undergo_29 : decode b_N_undergo 29 = .ok (.dup, 1) := by decide +kernel
theorem d_N_undergo_30 : decode b_N_undergo 30 = .ok (.getfield 43, 3) := by decide +kernel
theorem d_N_undergo_33 : decode b_N_undergo 33 = .ok (.iconst 1, 1) := by decide +kernel
theorem d_N_undergo_34 : decode b_N_undergo 34 = .ok (.iadd, 1) := by decide +kernel
theorem d_N_undergo_35 : decode b_N_undergo 35 = .ok (.putfield 43, 3) := by decide +kernel
theorem d_N_undergo_38 : decode b_N_undergo 38 = .ok (.aload_n 0, 1) := by decide +kernel
theorem d_N_undergo_39 : decode b_N_undergo 39 = .ok (.getfield 25, 3) := by decide +kernel
theorem d_N_undergo_42 : decode b_N_undergo 42 = .ok (.ifCond .ne 14, 3) := by decide +kernel
theorem d_N_undergo_45 : decode b_N_undergo 45 = .ok (.aload_n 0, 1) := by decide +kernel
theorem d_N_undergo_46 : decode b_N_undergo 46 = .ok (.iload_n 1, 1) := by decide +kernel
theorem d_N_undergo_47 : decode b_N_undergo 47 = .ok (.iload_n 2, 1) := by decide +kernel
theorem d_N_undergo_48 : decode b_N_undergo 48 = .ok (.invokevirtual 46, 3) := by decide +kernel
theorem d_N_undergo_51 : decode b_N_undergo 51 = .ok (.aload_n 0, 1) := by decide +kernel
theorem d_N_undergo_52 : decode b_N_undergo 52 = .ok (.iload_n 1, 1) := by decide +kernel
theorem d_N_undergo_53 : decode b_N_undergo 53 = .ok (.invokevirtual 49, 3) := by decide +kernel
theorem d_N_undergo_56 : decode b_N_undergo 56 = .ok (.iload_n 2, 1) := by decide +kernel
theorem d_N_undergo_57 : decode b_N_undergo 57 = .ok (.ifCond .eq 15, 3) := by decide +kernel
theorem d_N_undergo_60 : decode b_N_undergo 60 = .ok (.aload_n 0, 1) := by decide +kernel
theorem d_N_undergo_61 : decode b_N_undergo 61 = .ok (.invokevirtual 52, 3) := by decide +kernel
theorem d_N_undergo_64 : decode b_N_undergo 64 = .ok (.iconst 1, 1) := by decide +kernel
theorem d_N_undergo_65 : decode b_N_undergo 65 = .ok (.if_icmp .ne 7, 3) := by decide +kernel
theorem d_N_undergo_68 : decode b_N_undergo 68 = .ok (.iconst 1, 1) := by decide +kernel
theorem d_N_undergo_69 : decode b_N_undergo 69 = .ok (.goto 4, 3) := by decide +kernel
theorem d_N_undergo_72 : decode b_N_undergo 72 = .ok (.iconst 0, 1) := by decide +kernel
theorem d_N_undergo_73 : decode b_N_undergo 73 = .ok (.istore_n 3, 1) := by decide +kernel
theorem d_N_undergo_74 : decode b_N_undergo 74 = .ok (.aload_n 0, 1) := by decide +kernel
theorem d_N_undergo_75 : decode b_N_undergo 75 = .ok (.iload_n 3, 1) := by decide +kernel
theorem d_N_undergo_76 : decode b_N_undergo 76 = .ok (.ifCond .eq 8, 3) := by decide +kernel
theorem d_N_undergo_79 : decode b_N_undergo 79 = .ok (.bipush 11, 2) := by decide +kernel
theorem d_N_undergo_81 : decode b_N_undergo 81 = .ok (.goto 4, 3) := by decide +kernel
theorem d_N_undergo_84 : decode b_N_undergo 84 = .ok (.iconst 3, 1) := by decide +kernel
theorem d_N_undergo_85 : decode b_N_undergo 85 = .ok (.putfield 56, 3) := by decide +kernel
theorem d_N_undergo_88 : decode b_N_undergo 88 = .ok (.aload_n 0, 1) := by decide +kernel
theorem d_N_undergo_89 : decode b_N_undergo 89 = .ok (.getfield 15, 3) := by decide +kernel
theorem d_N_undergo_92 : decode b_N_undergo 92 = .ok (.sipush 256, 3) := by decide +kernel
theorem d_N_undergo_95 : decode b_N_undergo 95 = .ok (.if_icmp .lt 7, 3) := by decide +kernel
theorem d_N_undergo_98 : decode b_N_undergo 98 = .ok (.aload_n 0, 1) := by decide +kernel
theorem d_N_undergo_99 : decode b_N_undergo 99 = .ok (.invokevirtual 59, 3) := by decide +kernel
theorem d_N_undergo_102 : decode b_N_undergo 102 = .ok (.return_, 1) := by decide +kernel
theorem d_N_countGoodFrames_0 : decode b_N_countGoodFrames 0 = .ok (.iload_n 1, 1) := by decide +kernel
theorem d_N_countGoodFrames_1 : decode b_N_countGoodFrames 1 = .ok (.invokestatic 32, 3) := by decide +kernel
theorem d_N_countGoodFrames_4 : decode b_N_countGoodFrames 4 = .ok (.ifCond .eq 11, 3) := by decide +kernel
theorem d_N_countGoodFrames_7 : decode b_N_countGoodFrames 7 = .ok (.aload_n 0, 1) := by decide +kernel
theorem d_N_countGoodFrames_8 : decode b_N_countGoodFrames 8 = .ok (.iconst 0, 1) := by decide +kernel
theorem d_N_countGoodFrames_9 : decode b_N_countGoodFrames 9 = .ok (.putfield 62, 3) := by decide +kernel
theorem d_N_countGoodFrames_12 : decode b_N_countGoodFrames 12 = .ok (.goto 22, 3) := by decide +kernel
theorem d_N_countGoodFrames_15 : decode b_N_countGoodFrames 15 = .ok (.iload_n 1, 1) := by decide +kernel
theorem d_N_countGoodFrames_16 : decode b_N_countGoodFrames 16 = .ok (.ifCond .ne 18, 3) := by decide +kernel
theorem d_N_countGoodFrames_19 : decode b_N_countGoodFrames 19 = .ok (.aload_n 0, 1) := by decide +kernel
theorem d_N_countGoodFrames_20 : decode b_N_countGoodFrames 20 = .ok (.aload_n 0, 1) := by decide +kernel
theorem d_N_countGoodFrames_21 : decode b_N_countGoodFrames 21 = .ok (.getfield 62, 3) := by decide +kernel
theorem d_N_countGoodFrames_24 : decode b_N_countGoodFrames 24 = .ok (.iconst 1, 1) := by decide +kernel
theorem d_N_countGoodFrames_25 : decode b_N_countGoodFrames 25 = .ok (.iadd, 1) := by decide +kernel
theorem d_N_countGoodFrames_26 : decode b_N_countGoodFrames 26 = .ok (.bipush 100, 2) := by decide +kernel
theorem d_N_countGoodFrames_28 : decode b_N_countGoodFrames 28 = .ok (.invokestatic 65, 3) := by decide +kernel
theorem d_N_countGoodFrames_31 : decode b_N_countGoodFrames 31 = .ok (.putfield 62, 3) := by decide +kernel
theorem d_N_countGoodFrames_34 : decode b_N_countGoodFrames 34 = .ok (.aload_n 0, 1) := by decide +kernel
theorem d_N_countGoodFrames_35 : decode b_N_countGoodFrames 35 = .ok (.getfield 62, 3) := by decide +kernel
theorem d_N_countGoodFrames_38 : decode b_N_countGoodFrames 38 = .ok (.bipush 100, 2) := by decide +kernel
theorem d_N_countGoodFrames_40 : decode b_N_countGoodFrames 40 = .ok (.if_icmp .lt 8, 3) := by decide +kernel
theorem d_N_countGoodFrames_43 : decode b_N_countGoodFrames 43 = .ok (.aload_n 0, 1) := by decide +kernel
theorem d_N_countGoodFrames_44 : decode b_N_countGoodFrames 44 = .ok (.iconst 0, 1) := by decide +kernel
theorem d_N_countGoodFrames_45 : decode b_N_countGoodFrames 45 = .ok (.putfield 71, 3) := by decide +kernel
theorem d_N_countGoodFrames_48 : decode b_N_countGoodFrames 48 = .ok (.return_, 1) := by decide +kernel
theorem d_N_countErrors_0 : decode b_N_countErrors 0 = .ok (.iload_n 1, 1) := by decide +kernel
theorem d_N_countErrors_1 : decode b_N_countErrors 1 = .ok (.ifCond .ne 11, 3) := by decide +kernel
theorem d_N_countErrors_4 : decode b_N_countErrors 4 = .ok (.aload_n 0, 1) := by decide +kernel
theorem d_N_countErrors_5 : decode b_N_countErrors 5 = .ok (.iload_n 2, 1) := by decide +kernel
theorem d_N_countErrors_6 : decode b_N_countErrors 6 = .ok (.invokevirtual 74, 3) := by decide +kernel
theorem d_N_countErrors_9 : decode b_N_countErrors 9 = .ok (.goto 50, 3) := by decide +kernel
theorem d_N_countErrors_12 : decode b_N_countErrors 12 = .ok (.iload_n 2, 1) := by decide +kernel
theorem d_N_countErrors_13 : decode b_N_countErrors 13 = .ok (.ifCond .eq 26, 3) := by decide +kernel
theorem d_N_countErrors_16 : decode b_N_countErrors 16 = .ok (.aload_n 0, 1) := by decide +kernel
theorem d_N_countErrors_17 : decode b_N_countErrors 17 = .ok (.aload_n 0, 1) := by decide +kernel
theorem d_N_countErrors_18 : decode b_N_countErrors 18 = .ok (.getfield 15, 3) := by decide +kernel
theorem d_N_countErrors_21 : decode b_N_countErrors 21 = .ok (.aload_n 0, 1) := by decide +kernel
theorem d_N_countErrors_22 : decode b_N_countErrors 22 = .ok (.iload_n 1, 1) := by decide +kernel
theorem d_N_countErrors_23 : decode b_N_countErrors 23 = .ok (.invokevirtual 78, 3) := by decide +kernel
theorem d_N_countErrors_26 : decode b_N_countErrors 26 = .ok (.iadd, 1) := by decide +kernel
theorem d_N_countErrors_27 : decode b_N_countErrors 27 = .ok (.sipush 256, 3) := by decide +kernel
theorem d_N_countErrors_30 : decode b_N_countErrors 30 = .ok (.invokestatic 65, 3) := by decide +kernel
theorem d_N_countErrors_33 : decode b_N_countErrors 33 = .ok (.putfield 15, 3) := by decide +kernel
theorem d_N_countErrors_36 : decode b_N_countErrors 36 = .ok (.goto 23, 3) := by decide +kernel
theorem d_N_countErrors_39 : decode b_N_countErrors 39 = .ok (.aload_n 0, 1) := by decide +kernel
theorem d_N_countErrors_40 : decode b_N_countErrors 40 = .ok (.aload_n 0, 1) := by decide +kernel
theorem d_N_countErrors_41 : decode b_N_countErrors 41 = .ok (.getfield 19, 3) := by decide +kernel
theorem d_N_countErrors_44 : decode b_N_countErrors 44 = .ok (.aload_n 0, 1) := by decide +kernel
theorem d_N_countErrors_45 : decode b_N_countErrors 45 = .ok (.iload_n 1, 1) := by decide +kernel
theorem d_N_countErrors_46 : decode b_N_countErrors 46 = .ok (.invokevirtual 82, 3) := by decide +kernel
theorem d_N_countErrors_49 : decode b_N_countErrors 49 = .ok (.iadd, 1) := by decide +kernel
theorem d_N_countErrors_50 : decode b_N_countErrors 50 = .ok (.sipush 255, 3) := by decide +kernel
theorem d_N_countErrors_53 : decode b_N_countErrors 53 = .ok (.invokestatic 65, 3) := by decide +kernel
theorem d_N_countErrors_56 : decode b_N_countErrors 56 = .ok (.putfield 19, 3) := by decide +kernel
theorem d_N_countErrors_59 : decode b_N_countErrors 59 = .ok (.return_, 1) := by decide +kernel
theorem d_N_lowerCounter_0 : decode b_N_lowerCounter 0 = .ok (.iload_n 1, 1) := by decide +kernel
theorem d_N_lowerCounter_1 : decode b_N_lowerCounter 1 = .ok (.ifCond .eq 20, 3) := by decide +kernel
theorem d_N_lowerCounter_4 : decode b_N_lowerCounter 4 = .ok (.aload_n 0, 1) := by decide +kernel
theorem d_N_lowerCounter_5 : decode b_N_lowerCounter 5 = .ok (.aload_n 0, 1) := by decide +kernel
theorem d_N_lowerCounter_6 : decode b_N_lowerCounter 6 = .ok (.getfield 15, 3) := by decide +kernel
theorem d_N_lowerCounter_9 : decode b_N_lowerCounter 9 = .ok (.iconst 1, 1) := by decide +kernel
theorem d_N_lowerCounter_10 : decode b_N_lowerCounter 10 = .ok (.isub, 1) := by decide +kernel
theorem d_N_lowerCounter_11 : decode b_N_lowerCounter 11 = .ok (.iconst 0, 1) := by decide +kernel
theorem d_N_lowerCounter_12 : decode b_N_lowerCounter 12 = .ok (.invokestatic 85, 3) := by decide +kernel
theorem d_N_lowerCounter_15 : decode b_N_lowerCounter 15 = .ok (.putfield 15, 3) := by decide +kernel
theorem d_N_lowerCounter_18 : decode b_N_lowerCounter 18 = .ok (.goto 35, 3) := by decide +kernel
theorem d_N_lowerCounter_21 : decode b_N_lowerCounter 21 = .ok (.aload_n 0, 1) := by decide +kernel
theorem d_N_lowerCounter_22 : decode b_N_lowerCounter 22 = .ok (.getfield 19, 3) := by decide +kernel
theorem d_N_lowerCounter_25 : decode b_N_lowerCounter 25 = .ok (.bipush 127, 2) := by decide +kernel
theorem d_N_lowerCounter_27 : decode b_N_lowerCounter 27 = .ok (.if_icmp .le 12, 3) := by decide +kernel
theorem d_N_lowerCounter_30 : decode b_N_lowerCounter 30 = .ok (.aload_n 0, 1) := by decide +kernel
theorem d_N_lowerCounter_31 : decode b_N_lowerCounter 31 = .ok (.bipush 119, 2) := by decide +kernel
theorem d_N_lowerCounter_33 : decode b_N_lowerCounter 33 = .ok (.putfield 19, 3) := by decide +kernel
theorem d_N_lowerCounter_36 : decode b_N_lowerCounter 36 = .ok (.goto 17, 3) := by decide +kernel
theorem d_N_lowerCounter_39 : decode b_N_lowerCounter 39 = .ok (.aload_n 0, 1) := by decide +kernel
theorem d_N_lowerCounter_40 : decode b_N_lowerCounter 40 = .ok (.aload_n 0, 1) := by decide +kernel
theorem d_N_lowerCounter_41 : decode b_N_lowerCounter 41 = .ok (.getfield 19, 3) := by decide +kernel
theorem d_N_lowerCounter_44 : decode b_N_lowerCounter 44 = .ok (.iconst 1, 1) := by decide +kernel
theorem d_N_lowerCounter_45 : decode b_N_lowerCounter 45 = .ok (.isub, 1) := by decide +kernel
theorem d_N_lowerCounter_46 : decode b_N_lowerCounter 46 = .ok (.iconst 0, 1) := by decide +kernel
theorem d_N_lowerCounter_47 : decode b_N_lowerCounter 47 = .ok (.invokestatic 85, 3) := by decide +kernel
theorem d_N_lowerCounter_50 : decode b_N_lowerCounter 50 = .ok (.putfield 19, 3) := by decide +kernel
theorem d_N_lowerCounter_53 : decode b_N_lowerCounter 53 = .ok (.return_, 1) := by decide +kernel
theorem d_N_senderPenalty_0 : decode b_N_senderPenalty 0 = .ok (.iload_n 1, 1) := by decide +kernel
theorem d_N_senderPenalty_1 : decode b_N_senderPenalty 1 = .ok (.bipush 6, 2) := by decide +kernel
theorem d_N_senderPenalty_3 : decode b_N_senderPenalty 3 = .ok (.if_icmp .eq 9, 3) := by decide +kernel
theorem d_N_senderPenalty_6 : decode b_N_senderPenalty 6 = .ok (.iload_n 1, 1) := by decide +kernel
theorem d_N_senderPenalty_7 : decode b_N_senderPenalty 7 = .ok (.bipush 9, 2) := by decide +kernel
theorem d_N_senderPenalty_9 : decode b_N_senderPenalty 9 = .ok (.if_icmp .ne 5, 3) := by decide +kernel
theorem d_N_senderPenalty_12 : decode b_N_senderPenalty 12 = .ok (.iconst 0, 1) := by decide +kernel
theorem d_N_senderPenalty_13 : decode b_N_senderPenalty 13 = .ok (.ireturn, 1) := by decide +kernel
theorem d_N_senderPenalty_14 : decode b_N_senderPenalty 14 = .ok (.iload_n 1, 1) := by decide +kernel
theorem d_N_senderPenalty_15 : decode b_N_senderPenalty 15 = .ok (.iconst 5, 1) := by decide +kernel
theorem d_N_senderPenalty_16 : decode b_N_senderPenalty 16 = .ok (.if_icmp .ne 13, 3) := by decide +kernel
theorem d_N_senderPenalty_19 : decode b_N_senderPenalty 19 = .ok (.aload_n 0, 1) := by decide +kernel
theorem d_N_senderPenalty_20 : decode b_N_senderPenalty 20 = .ok (.invokevirtual 52, 3) := by decide +kernel
theorem d_N_senderPenalty_23 : decode b_N_senderPenalty 23 = .ok (.iconst 1, 1) := by decide +kernel
theorem d_N_senderPenalty_24 : decode b_N_senderPenalty 24 = .ok (.if_icmp .ne 5, 3) := by decide +kernel
theorem d_N_senderPenalty_27 : decode b_N_senderPenalty 27 = .ok (.iconst 0, 1) := by decide +kernel
theorem d_N_senderPenalty_28 : decode b_N_senderPenalty 28 = .ok (.ireturn, 1) := by decide +kernel
theorem d_N_senderPenalty_29 : decode b_N_senderPenalty 29 = .ok (.bipush 8, 2) := by decide +kernel
theorem d_N_senderPenalty_31 : decode b_N_senderPenalty 31 = .ok (.ireturn, 1) := by decide +kernel
theorem d_N_receiverPenalty_0 : decode b_N_receiverPenalty 0 = .ok (.iload_n 1, 1) := by decide +kernel
theorem d_N_receiverPenalty_1 : decode b_N_receiverPenalty 1 = .ok (.invokestatic 88, 3) := by decide +kernel
theorem d_N_receiverPenalty_4 : decode b_N_receiverPenalty 4 = .ok (.ifCond .eq 8, 3) := by decide +kernel
theorem d_N_receiverPenalty_7 : decode b_N_receiverPenalty 7 = .ok (.bipush 8, 2) := by decide +kernel
theorem d_N_receiverPenalty_9 : decode b_N_receiverPenalty 9 = .ok (.goto 4, 3) := by decide +kernel
theorem d_N_receiverPenalty_12 : decode b_N_receiverPenalty 12 = .ok (.iconst 1, 1) := by decide +kernel
theorem d_N_receiverPenalty_13 : decode b_N_receiverPenalty 13 = .ok (.ireturn, 1) := by decide +kernel
theorem d_N_changeFlag_0 : decode b_N_changeFlag 0 = .ok (.iload_n 1, 1) := by decide +kernel
theorem d_N_changeFlag_1 : decode b_N_changeFlag 1 = .ok (.ifCond .ne 11, 3) := by decide +kernel
theorem d_N_changeFlag_4 : decode b_N_changeFlag 4 = .ok (.aload_n 0, 1) := by decide +kernel
theorem d_N_changeFlag_5 : decode b_N_changeFlag 5 = .ok (.iconst 0, 1) := by decide +kernel
theorem d_N_changeFlag_6 : decode b_N_changeFlag 6 = .ok (.putfield 91, 3) := by decide +kernel
theorem d_N_changeFlag_9 : decode b_N_changeFlag 9 = .ok (.goto 55, 3) := by decide +kernel
theorem d_N_changeFlag_12 : decode b_N_changeFlag 12 = .ok (.iload_n 1, 1) := by decide +kernel
theorem d_N_changeFlag_13 : decode b_N_changeFlag 13 = .ok (.invokestatic 32, 3) := by decide +kernel
theorem d_N_changeFlag_16 : decode b_N_changeFlag 16 = .ok (.ifCond .eq 12, 3) := by decide +kernel
theorem d_N_changeFlag_19 : decode b_N_changeFlag 19 = .ok (.aload_n 0, 1) := by decide +kernel
theorem d_N_changeFlag_20 : decode b_N_changeFlag 20 = .ok (.bipush 6, 2) := by decide +kernel
theorem d_N_changeFlag_22 : decode b_N_changeFlag 22 = .ok (.putfield 91, 3) := by decide +kernel
theorem d_N_changeFlag_25 : decode b_N_changeFlag 25 = .ok (.goto 39, 3) := by decide +kernel
theorem d_N_changeFlag_28 : decode b_N_changeFlag 28 = .ok (.aload_n 0, 1) := by decide +kernel
theorem d_N_changeFlag_29 : decode b_N_changeFlag 29 = .ok (.getfield 91, 3) := by decide +kernel
theorem d_N_changeFlag_32 : decode b_N_changeFlag 32 = .ok (.ifCond .le 32, 3) := by decide +kernel
theorem d_N_changeFlag_35 : decode b_N_changeFlag 35 = .ok (.iload_n 1, 1) := by decide +kernel
theorem d_N_changeFlag_36 : decode b_N_changeFlag 36 = .ok (.bipush 8, 2) := by decide +kernel
theorem d_N_changeFlag_38 : decode b_N_changeFlag 38 = .ok (.if_icmp .ne 8, 3) := by decide +kernel
theorem d_N_changeFlag_41 : decode b_N_changeFlag 41 = .ok (.bipush 8, 2) := by decide +kernel
theorem d_N_changeFlag_43 : decode b_N_changeFlag 43 = .ok (.goto 4, 3) := by decide +kernel
theorem d_N_changeFlag_46 : decode b_N_changeFlag 46 = .ok (.iconst 1, 1) := by decide +kernel
theorem d_N_changeFlag_47 : decode b_N_changeFlag 47 = .ok (.istore_n 2, 1) := by decide +kernel
theorem d_N_changeFlag_48 : decode b_N_changeFlag 48 = .ok (.aload_n 0, 1) := by decide +kernel
theorem d_N_changeFlag_49 : decode b_N_changeFlag 49 = .ok (.aload_n 0, 1) := by decide +kernel
theorem d_N_changeFlag_50 : decode b_N_changeFlag 50 = .ok (.getfield 91, 3) := by decide +kernel
theorem d_N_changeFlag_53 : decode b_N_changeFlag 53 = .ok (.iload_n 2, 1) := by decide +kernel
theorem d_N_changeFlag_54 : decode b_N_changeFlag 54 = .ok (.iadd, 1) := by decide +kernel
theorem d_N_changeFlag_55 : decode b_N_changeFlag 55 = .ok (.sipush 10000, 3) := by decide +kernel
theorem d_N_changeFlag_58 : decode b_N_changeFlag 58 = .ok (.invokestatic 65, 3) := by decide +kernel
theorem d_N_changeFlag_61 : decode b_N_changeFlag 61 = .ok (.putfield 91, 3) := by decide +kernel
theorem d_N_changeFlag_64 : decode b_N_changeFlag 64 = .ok (.return_, 1) := by decide +kernel
theorem d_N_goOff_0 : decode b_N_goOff 0 = .ok (.aload_n 0, 1) := by decide +kernel
theorem d_N_goOff_1 : decode b_N_goOff 1 = .ok (.iconst 1, 1) := by decide +kernel
theorem d_N_goOff_2 : decode b_N_goOff 2 = .ok (.putfield 9, 3) := by decide +kernel
theorem d_N_goOff_5 : decode b_N_goOff 5 = .ok (.aload_n 0, 1) := by decide +kernel
theorem d_N_goOff_6 : decode b_N_goOff 6 = .ok (.dup, 1) := by decide +kernel
theorem d_N_goOff_7 : decode b_N_goOff 7 = .ok (.getfield 71, 3) := by decide +kernel
theorem d_N_goOff_10 : decode b_N_goOff 10 = .ok (.iconst 1, 1) := by decide +kernel
theorem d_N_goOff_11 : decode b_N_goOff 11 = .ok (.iadd, 1) := by decide +kernel
theorem d_N_goOff_12 : decode b_N_goOff 12 = .ok (.putfield 71, 3) := by decide +kernel
theorem d_N_goOff_15 : decode b_N_goOff 15 = .ok (.aload_n 0, 1) := by decide +kernel
theorem d_N_goOff_16 : decode b_N_goOff 16 = .ok (.iconst 0, 1) := by decide +kernel
theorem d_N_goOff_17 : decode b_N_goOff 17 = .ok (.putfield 62, 3) := by decide +kernel
theorem d_N_goOff_20 : decode b_N_goOff 20 = .ok (.aload_n 0, 1) := by decide +kernel
theorem d_N_goOff_21 : decode b_N_goOff 21 = .ok (.iconst 0, 1) := by decide +kernel
theorem d_N_goOff_22 : decode b_N_goOff 22 = .ok (.putfield 91, 3) := by decide +kernel
theorem d_N_goOff_25 : decode b_N_goOff 25 = .ok (.aload_n 0, 1) := by decide +kernel
theorem d_N_goOff_26 : decode b_N_goOff 26 = .ok (.iconst 0, 1) := by decide +kernel
theorem d_N_goOff_27 : decode b_N_goOff 27 = .ok (.putfield 94, 3) := by decide +kernel
theorem d_N_goOff_30 : decode b_N_goOff 30 = .ok (.aload_n 0, 1) := by decide +kernel
theorem d_N_goOff_31 : decode b_N_goOff 31 = .ok (.iconst 0, 1) := by decide +kernel
theorem d_N_goOff_32 : decode b_N_goOff 32 = .ok (.putfield 97, 3) := by decide +kernel
theorem d_N_goOff_35 : decode b_N_goOff 35 = .ok (.aload_n 0, 1) := by decide +kernel
theorem d_N_goOff_36 : decode b_N_goOff 36 = .ok (.iconst 0, 1) := by decide +kernel
theorem d_N_goOff_37 : decode b_N_goOff 37 = .ok (.putfield 100, 3) := by decide +kernel
theorem d_N_goOff_40 : decode b_N_goOff 40 = .ok (.return_, 1) := by decide +kernel
theorem d_N_mayComeBack_0 : decode b_N_mayComeBack 0 = .ok (.aload_n 0, 1) := by decide +kernel
theorem d_N_mayComeBack_1 : decode b_N_mayComeBack 1 = .ok (.getfield 9, 3) := by decide +kernel
theorem d_N_mayComeBack_4 : decode b_N_mayComeBack 4 = .ok (.ifCond .ne 5, 3) := by decide +kernel
theorem d_N_mayComeBack_7 : decode b_N_mayComeBack 7 = .ok (.iconst 1, 1) := by decide +kernel
theorem d_N_mayComeBack_8 : decode b_N_mayComeBack 8 = .ok (.ireturn, 1) := by decide +kernel
theorem d_N_mayComeBack_9 : decode b_N_mayComeBack 9 = .ok (.aload_n 0, 1) := by decide +kernel
theorem d_N_mayComeBack_10 : decode b_N_mayComeBack 10 = .ok (.getfield 94, 3) := by decide +kernel
theorem d_N_mayComeBack_13 : decode b_N_mayComeBack 13 = .ok (.ifCond .ne 15, 3) := by decide +kernel
theorem d_N_mayComeBack_16 : decode b_N_mayComeBack 16 = .ok (.aload_n 0, 1) := by decide +kernel
theorem d_N_mayComeBack_17 : decode b_N_mayComeBack 17 = .ok (.iconst 1, 1) := by decide +kernel
theorem d_N_mayComeBack_18 : decode b_N_mayComeBack 18 = .ok (.putfield 94, 3) := by decide +kernel
theorem d_N_mayComeBack_21 : decode b_N_mayComeBack 21 = .ok (.aload_n 0, 1) := by decide +kernel
theorem d_N_mayComeBack_22 : decode b_N_mayComeBack 22 = .ok (.lload_n 1, 1) := by decide +kernel
theorem d_N_mayComeBack_23 : decode b_N_mayComeBack 23 = .ok (.putfield 103, 3) := by decide +kernel
theorem d_N_mayComeBack_26 : decode b_N_mayComeBack 26 = .ok (.iconst 0, 1) := by decide +kernel
theorem d_N_mayComeBack_27 : decode b_N_mayComeBack 27 = .ok (.ireturn, 1) := by decide +kernel
theorem d_N_mayComeBack_28 : decode b_N_mayComeBack 28 = .ok (.lload_n 1, 1) := by decide +kernel
theorem d_N_mayComeBack_29 : decode b_N_mayComeBack 29 = .ok (.aload_n 0, 1) := by decide +kernel
theorem d_N_mayComeBack_30 : decode b_N_mayComeBack 30 = .ok (.getfield 103, 3) := by decide +kernel
theorem d_N_mayComeBack_33 : decode b_N_mayComeBack 33 = .ok (.lsub, 1) := by decide +kernel
theorem d_N_mayComeBack_34 : decode b_N_mayComeBack 34 = .ok (.aload_n 0, 1) := by decide +kernel
theorem d_N_mayComeBack_35 : decode b_N_mayComeBack 35 = .ok (.invokevirtual 107, 3) := by decide +kernel
theorem d_N_mayComeBack_38 : decode b_N_mayComeBack 38 = .ok (.lcmp, 1) := by decide +kernel
theorem d_N_mayComeBack_39 : decode b_N_mayComeBack 39 = .ok (.ifCond .lt 8, 3) := by decide +kernel
theorem d_N_mayComeBack_42 : decode b_N_mayComeBack 42 = .ok (.aload_n 0, 1) := by decide +kernel
theorem d_N_mayComeBack_43 : decode b_N_mayComeBack 43 = .ok (.iconst 1, 1) := by decide +kernel
theorem d_N_mayComeBack_44 : decode b_N_mayComeBack 44 = .ok (.putfield 97, 3) := by decide +kernel
theorem d_N_mayComeBack_47 : decode b_N_mayComeBack 47 = .ok (.aload_n 0, 1) := by decide +kernel
theorem d_N_mayComeBack_48 : decode b_N_mayComeBack 48 = .ok (.getfield 97, 3) := by decide +kernel
theorem d_N_mayComeBack_51 : decode b_N_mayComeBack 51 = .ok (.ireturn, 1) := by decide +kernel
theorem d_N_delay_0 : decode b_N_delay 0 = .ok (.aload_n 0, 1) := by decide +kernel
theorem d_N_delay_1 : decode b_N_delay 1 = .ok (.getfield 71, 3) := by decide +kernel
theorem d_N_delay_4 : decode b_N_delay 4 = .ok (.iconst 5, 1) := by decide +kernel
theorem d_N_delay_5 : decode b_N_delay 5 = .ok (.if_icmp .le 9, 3) := by decide +kernel
theorem d_N_delay_8 : decode b_N_delay 8 = .ok (.ldc2_w 111, 3) := by decide +kernel
theorem d_N_delay_11 : decode b_N_delay 11 = .ok (.goto 6, 3) := by decide +kernel
theorem d_N_delay_14 : decode b_N_delay 14 = .ok (.ldc2_w 113, 3) := by decide +kernel
theorem d_N_delay_17 : decode b_N_delay 17 = .ok (.lreturn, 1) := by decide +kernel
theorem d_N_countRows_0 : decode b_N_countRows 0 = .ok (.iload_n 1, 1) := by decide +kernel
theorem d_N_countRows_1 : decode b_N_countRows 1 = .ok (.sipush 128, 3) := by decide +kernel
theorem d_N_countRows_4 : decode b_N_countRows 4 = .ok (.aload_n 0, 1) := by decide +kernel
theorem d_N_countRows_5 : decode b_N_countRows 5 = .ok (.getfield 100, 3) := by decide +kernel
theorem d_N_countRows_8 : decode b_N_countRows 8 = .ok (.isub, 1) := by decide +kernel
theorem d_N_countRows_9 : decode b_N_countRows 9 = .ok (.if_icmp .lt 10, 3) := by decide +kernel
theorem d_N_countRows_12 : decode b_N_countRows 12 = .ok (.aload_n 0, 1) := by decide +kernel
theorem d_N_countRows_13 : decode b_N_countRows 13 = .ok (.invokevirtual 115, 3) := by decide +kernel
theorem d_N_countRows_16 : decode b_N_countRows 16 = .ok (.goto 13, 3) := by decide +kernel
theorem d_N_countRows_19 : decode b_N_countRows 19 = .ok (.aload_n 0, 1) := by decide +kernel
theorem d_N_countRows_20 : decode b_N_countRows 20 = .ok (.dup, 1) := by decide +kernel
theorem d_N_countRows_21 : decode b_N_countRows 21 = .ok (.getfield 100, 3) := by decide +kernel
theorem d_N_countRows_24 : decode b_N_countRows 24 = .ok (.iload_n 1, 1) := by decide +kernel
theorem d_N_countRows_25 : decode b_N_countRows 25 = .ok (.iadd, 1) := by decide +kernel
theorem d_N_countRows_26 : decode b_N_countRows 26 = .ok (.putfield 100, 3) := by decide +kernel
theorem d_N_countRows_29 : decode b_N_countRows 29 = .ok (.return_, 1) := by decide +kernel
theorem d_N_comeBack_0 : decode b_N_comeBack 0 = .ok (.aload_n 0, 1) := by decide +kernel
theorem d_N_comeBack_1 : decode b_N_comeBack 1 = .ok (.iconst 0, 1) := by decide +kernel
theorem d_N_comeBack_2 : decode b_N_comeBack 2 = .ok (.putfield 9, 3) := by decide +kernel
theorem d_N_comeBack_5 : decode b_N_comeBack 5 = .ok (.aload_n 0, 1) := by decide +kernel
theorem d_N_comeBack_6 : decode b_N_comeBack 6 = .ok (.iconst 0, 1) := by decide +kernel
theorem d_N_comeBack_7 : decode b_N_comeBack 7 = .ok (.putfield 15, 3) := by decide +kernel
theorem d_N_comeBack_10 : decode b_N_comeBack 10 = .ok (.aload_n 0, 1) := by decide +kernel
theorem d_N_comeBack_11 : decode b_N_comeBack 11 = .ok (.iconst 0, 1) := by decide +kernel
theorem d_N_comeBack_12 : decode b_N_comeBack 12 = .ok (.putfield 19, 3) := by decide +kernel
theorem d_N_comeBack_15 : decode b_N_comeBack 15 = .ok (.aload_n 0, 1) := by decide +kernel
theorem d_N_comeBack_16 : decode b_N_comeBack 16 = .ok (.iconst 0, 1) := by decide +kernel
theorem d_N_comeBack_17 : decode b_N_comeBack 17 = .ok (.putfield 91, 3) := by decide +kernel
theorem d_N_comeBack_20 : decode b_N_comeBack 20 = .ok (.aload_n 0, 1) := by decide +kernel
theorem d_N_comeBack_21 : decode b_N_comeBack 21 = .ok (.iconst 0, 1) := by decide +kernel
theorem d_N_comeBack_22 : decode b_N_comeBack 22 = .ok (.putfield 56, 3) := by decide +kernel
theorem d_N_comeBack_25 : decode b_N_comeBack 25 = .ok (.return_, 1) := by decide +kernel
