theorem d_M_init_0 : decode b_M_init 0 = .ok (.aload_n 0, 1) := by decide +kernel
theorem d_M_init_1 : decode b_M_init 1 = .ok (.invokespecial 1, 3) := by decide +kernel
theorem d_M_init_4 : decode b_M_init 4 = .ok (.aload_n 0, 1) := by decide +kernel
theorem d_M_init_5 : decode b_M_init 5 = .ok (.bipush 101, 2) := by decide +kernel
theorem d_M_init_7 : decode b_M_init 7 = .ok (.newarray .int, 2) := by decide +kernel
theorem d_M_init_9 : decode b_M_init 9 = .ok (.putfield 7, 3) := by decide +kernel
theorem d_M_init_12 : decode b_M_init 12 = .ok (.aload_n 0, 1) := by decide +kernel
theorem d_M_init_13 : decode b_M_init 13 = .ok (.bipush 101, 2) := by decide +kernel
theorem d_M_init_15 : decode b_M_init 15 = .ok (.newarray .int, 2) := by decide +kernel
theorem d_M_init_17 : decode b_M_init 17 = .ok (.putfield 13, 3) := by decide +kernel
theorem d_M_init_20 : decode b_M_init 20 = .ok (.aload_n 0, 1) := by decide +kernel
theorem d_M_init_21 : decode b_M_init 21 = .ok (.bipush 101, 2) := by decide +kernel
theorem d_M_init_23 : decode b_M_init 23 = .ok (.newarray .boolean, 2) := by decide +kernel
theorem d_M_init_25 : decode b_M_init 25 = .ok (.putfield 16, 3) := by decide +kernel
theorem d_M_init_28 : decode b_M_init 28 = .ok (.aload_n 0, 1) := by decide +kernel
theorem d_M_init_29 : decode b_M_init 29 = .ok (.bipush 101, 2) := by decide +kernel
theorem d_M_init_31 : decode b_M_init 31 = .ok (.newarray .int, 2) := by decide +kernel
theorem d_M_init_33 : decode b_M_init 33 = .ok (.putfield 20, 3) := by decide +kernel
theorem d_M_init_36 : decode b_M_init 36 = .ok (.aload_n 0, 1) := by decide +kernel
theorem d_M_init_37 : decode b_M_init 37 = .ok (.bipush 101, 2) := by decide +kernel
theorem d_M_init_39 : decode b_M_init 39 = .ok (.newarray .int, 2) := by decide +kernel
theorem d_M_init_41 : decode b_M_init 41 = .ok (.putfield 23, 3) := by decide +kernel
theorem d_M_init_44 : decode b_M_init 44 = .ok (.aload_n 0, 1) := by decide +kernel
theorem d_M_init_45 : decode b_M_init 45 = .ok (.bipush 101, 2) := by decide +kernel
theorem d_M_init_47 : decode b_M_init 47 = .ok (.newarray .boolean, 2) := by decide +kernel
theorem d_M_init_49 : decode b_M_init 49 = .ok (.putfield 26, 3) := by decide +kernel
theorem d_M_init_52 : decode b_M_init 52 = .ok (.aload_n 0, 1) := by decide +kernel
theorem d_M_init_53 : decode b_M_init 53 = .ok (.bipush 101, 2) := by decide +kernel
theorem d_M_init_55 : decode b_M_init 55 = .ok (.newarray .boolean, 2) := by decide +kernel
theorem d_M_init_57 : decode b_M_init 57 = .ok (.putfield 29, 3) := by decide +kernel
theorem d_M_init_60 : decode b_M_init 60 = .ok (.aload_n 0, 1) := by decide +kernel
theorem d_M_init_61 : decode b_M_init 61 = .ok (.bipush 101, 2) := by decide +kernel
theorem d_M_init_63 : decode b_M_init 63 = .ok (.newarray .int, 2) := by decide +kernel
theorem d_M_init_65 : decode b_M_init 65 = .ok (.putfield 32, 3) := by decide +kernel
theorem d_M_init_68 : decode b_M_init 68 = .ok (.aload_n 0, 1) := by decide +kernel
theorem d_M_init_69 : decode b_M_init 69 = .ok (.bipush 101, 2) := by decide +kernel
theorem d_M_init_71 : decode b_M_init 71 = .ok (.newarray .boolean, 2) := by decide +kernel
theorem d_M_init_73 : decode b_M_init 73 = .ok (.putfield 35, 3) := by decide +kernel
theorem d_M_init_76 : decode b_M_init 76 = .ok (.aload_n 0, 1) := by decide +kernel
theorem d_M_init_77 : decode b_M_init 77 = .ok (.bipush 101, 2) := by decide +kernel
theorem d_M_init_79 : decode b_M_init 79 = .ok (.newarray .long, 2) := by decide +kernel
theorem d_M_init_81 : decode b_M_init 81 = .ok (.putfield 38, 3) := by decide +kernel
theorem d_M_init_84 : decode b_M_init 84 = .ok (.aload_n 0, 1) := by decide +kernel
theorem d_M_init_85 : decode b_M_init 85 = .ok (.bipush 101, 2) := by decide +kernel
theorem d_M_init_87 : decode b_M_init 87 = .ok (.newarray .boolean, 2) := by decide +kernel
theorem d_M_init_89 : decode b_M_init 89 = .ok (.putfield 42, 3) := by decide +kernel
theorem d_M_init_92 : decode b_M_init 92 = .ok (.aload_n 0, 1) := by decide +kernel
theorem d_M_init_93 : decode b_M_init 93 = .ok (.bipush 101, 2) := by decide +kernel
theorem d_M_init_95 : decode b_M_init 95 = .ok (.newarray .int, 2) := by decide +kernel
theorem d_M_init_97 : decode b_M_init 97 = .ok (.putfield 45, 3) := by decide +kernel
theorem d_M_init_100 : decode b_M_init 100 = .ok (.aload_n 0, 1) := by decide +kernel
theorem d_M_init_101 : decode b_M_init 101 = .ok (.bipush 101, 2) := by decide +kernel
theorem d_M_init_103 : decode b_M_init 103 = .ok (.newarray .int, 2) := by decide +kernel
theorem d_M_init_105 : decode b_M_init 105 = .ok (.putfield 48, 3) := by decide +kernel
theorem d_M_init_108 : decode b_M_init 108 = .ok (.aload_n 0, 1) := by decide +kernel
theorem d_M_init_109 : decode b_M_init 109 = .ok (.bipush 101, 2) := by decide +kernel
theorem d_M_init_111 : decode b_M_init 111 = .ok (.newarray .int, 2) := by decide +kernel
theorem d_M_init_113 : decode b_M_init 113 = .ok (.putfield 51, 3) := by decide +kernel
theorem d_M_init_116 : decode b_M_init 116 = .ok (.return_, 1) := by decide +kernel
theorem d_M_none_0 : decode b_M_none 0 = .ok (.aload_n 0, 1) := by decide +kernel
theorem d_M_none_1 : decode b_M_none 1 = .ok (.iconst 0, 1) := by decide +kernel
theorem d_M_none_2 : decode b_M_none 2 = .ok (.putfield 54, 3) := by decide +kernel
theorem d_M_none_5 : decode b_M_none 5 = .ok (.iload_n 1, 1) := by decide +kernel
theorem d_M_none_6 : decode b_M_none 6 = .ok (.iconst 1, 1) := by decide +kernel
theorem d_M_none_7 : decode b_M_none 7 = .ok (.if_icmp .lt 11, 3) := by decide +kernel
theorem d_M_none_10 : decode b_M_none 10 = .ok (.iload_n 1, 1) := by decide +kernel
theorem d_M_none_11 : decode b_M_none 11 = .ok (.aload_n 0, 1) := by decide +kernel
theorem d_M_none_12 : decode b_M_none 12 = .ok (.getfield 58, 3) := by decide +kernel
theorem d_M_none_15 : decode b_M_none 15 = .ok (.if_icmp .le 7, 3) := by decide +kernel
theorem d_M_none_18 : decode b_M_none 18 = .ok (.iconst 1, 1) := by decide +kernel
theorem d_M_none_19 : decode b_M_none 19 = .ok (.goto 4, 3) := by decide +kernel
theorem d_M_none_22 : decode b_M_none 22 = .ok (.iconst 0, 1) := by decide +kernel
theorem d_M_none_23 : decode b_M_none 23 = .ok (.ireturn, 1) := by decide +kernel
theorem d_M_node_0 : decode b_M_node 0 = .ok (.aload_n 0, 1) := by decide +kernel
theorem d_M_node_1 : decode b_M_node 1 = .ok (.iconst 0, 1) := by decide +kernel
theorem d_M_node_2 : decode b_M_node 2 = .ok (.putfield 54, 3) := by decide +kernel
theorem d_M_node_5 : decode b_M_node 5 = .ok (.aload_n 0, 1) := by decide +kernel
theorem d_M_node_6 : decode b_M_node 6 = .ok (.getfield 58, 3) := by decide +kernel
theorem d_M_node_9 : decode b_M_node 9 = .ok (.bipush 100, 2) := by decide +kernel
theorem d_M_node_11 : decode b_M_node 11 = .ok (.if_icmp .ne 6, 3) := by decide +kernel
theorem d_M_node_14 : decode b_M_node 14 = .ok (.bipush (-4), 2) := by decide +kernel
theorem d_M_node_16 : decode b_M_node 16 = .ok (.ireturn, 1) := by decide +kernel
theorem d_M_node_17 : decode b_M_node 17 = .ok (.aload_n 0, 1) := by decide +kernel
theorem d_M_node_18 : decode b_M_node 18 = .ok (.dup, 1) := by decide +kernel
theorem d_M_node_19 : decode b_M_node 19 = .ok (.getfield 58, 3) := by decide +kernel
theorem d_M_node_22 : decode b_M_node 22 = .ok (.iconst 1, 1) := by decide +kernel
theorem d_M_node_23 : decode b_M_node 23 = .ok (.iadd, 1) := by decide +kernel
theorem d_M_node_24 : decode b_M_node 24 = .ok (.putfield 58, 3) := by decide +kernel
theorem d_M_node_27 : decode b_M_node 27 = .ok (.aload_n 0, 1) := by decide +kernel
theorem d_M_node_28 : decode b_M_node 28 = .ok (.getfield 38, 3) := by decide +kernel
theorem d_M_node_31 : decode b_M_node 31 = .ok (.aload_n 0, 1) := by decide +kernel
theorem d_M_node_32 : decode b_M_node 32 = .ok (.getfield 58, 3) := by decide +kernel
theorem d_M_node_35 : decode b_M_node 35 = .ok (.ldc2_w 61, 3) := by decide +kernel
theorem d_M_node_38 : decode b_M_node 38 = .ok (.lastore, 1) := by decide +kernel
theorem d_M_node_39 : decode b_M_node 39 = .ok (.aload_n 0, 1) := by decide +kernel
theorem d_M_node_40 : decode b_M_node 40 = .ok (.getfield 58, 3) := by decide +kernel
theorem d_M_node_43 : decode b_M_node 43 = .ok (.ireturn, 1) := by decide +kernel
theorem d_M_is_0 : decode b_M_is 0 = .ok (.aload_n 0, 1) := by decide +kernel
theorem d_M_is_1 : decode b_M_is 1 = .ok (.getfield 16, 3) := by decide +kernel
theorem d_M_is_4 : decode b_M_is 4 = .ok (.iload_n 1, 1) := by decide +kernel
theorem d_M_is_5 : decode b_M_is 5 = .ok (.baload, 1) := by decide +kernel
theorem d_M_is_6 : decode b_M_is 6 = .ok (.ifCond .eq 5, 3) := by decide +kernel
theorem d_M_is_9 : decode b_M_is 9 = .ok (.iconst 2, 1) := by decide +kernel
theorem d_M_is_10 : decode b_M_is 10 = .ok (.ireturn, 1) := by decide +kernel
theorem d_M_is_11 : decode b_M_is 11 = .ok (.aload_n 0, 1) := by decide +kernel
theorem d_M_is_12 : decode b_M_is 12 = .ok (.getfield 7, 3) := by decide +kernel
theorem d_M_is_15 : decode b_M_is 15 = .ok (.iload_n 1, 1) := by decide +kernel
theorem d_M_is_16 : decode b_M_is 16 = .ok (.iaload, 1) := by decide +kernel
theorem d_M_is_17 : decode b_M_is 17 = .ok (.bipush 127, 2) := by decide +kernel
theorem d_M_is_19 : decode b_M_is 19 = .ok (.if_icmp .gt 14, 3) := by decide +kernel
theorem d_M_is_22 : decode b_M_is 22 = .ok (.aload_n 0, 1) := by decide +kernel
theorem d_M_is_23 : decode b_M_is 23 = .ok (.getfield 13, 3) := by decide +kernel
theorem d_M_is_26 : decode b_M_is 26 = .ok (.iload_n 1, 1) := by decide +kernel
theorem d_M_is_27 : decode b_M_is 27 = .ok (.iaload, 1) := by decide +kernel
theorem d_M_is_28 : decode b_M_is 28 = .ok (.bipush 127, 2) := by decide +kernel
theorem d_M_is_30 : decode b_M_is 30 = .ok (.if_icmp .le 7, 3) := by decide +kernel
theorem d_M_is_33 : decode b_M_is 33 = .ok (.iconst 1, 1) := by decide +kernel
theorem d_M_is_34 : decode b_M_is 34 = .ok (.goto 4, 3) := by decide +kernel
theorem d_M_is_37 : decode b_M_is 37 = .ok (.iconst 0, 1) := by decide +kernel
theorem d_M_is_38 : decode b_M_is 38 = .ok (.ireturn, 1) := by decide +kernel
theorem d_M_error_0 : decode b_M_error 0 = .ok (.iload_n 0, 1) := by decide +kernel
theorem d_M_error_1 : decode b_M_error 1 = .ok (.ifCond .le 9, 3) := by decide +kernel
theorem d_M_error_4 : decode b_M_error 4 = .ok (.iload_n 0, 1) := by decide +kernel
theorem d_M_error_5 : decode b_M_error 5 = .ok (.bipush 6, 2) := by decide +kernel
theorem d_M_error_7 : decode b_M_error 7 = .ok (.if_icmp .lt 9, 3) := by decide +kernel
theorem d_M_error_10 : decode b_M_error 10 = .ok (.iload_n 0, 1) := by decide +kernel
theorem d_M_error_11 : decode b_M_error 11 = .ok (.bipush 8, 2) := by decide +kernel
theorem d_M_error_13 : decode b_M_error 13 = .ok (.if_icmp .le 7, 3) := by decide +kernel
theorem d_M_error_16 : decode b_M_error 16 = .ok (.iconst 1, 1) := by decide +kernel
theorem d_M_error_17 : decode b_M_error 17 = .ok (.goto 4, 3) := by decide +kernel
theorem d_M_error_20 : decode b_M_error 20 = .ok (.iconst 0, 1) := by decide +kernel
theorem d_M_error_21 : decode b_M_error 21 = .ok (.ireturn, 1) := by decide +kernel
theorem d_M_more_0 : decode b_M_more 0 = .ok (.iload_n 2, 1) := by decide +kernel
theorem d_M_more_1 : decode b_M_more 1 = .ok (.ifCond .ne 5, 3) := by decide +kernel
theorem d_M_more_4 : decode b_M_more 4 = .ok (.iconst (-1), 1) := by decide +kernel
theorem d_M_more_5 : decode b_M_more 5 = .ok (.ireturn, 1) := by decide +kernel
theorem d_M_more_6 : decode b_M_more 6 = .ok (.iload_n 2, 1) := by decide +kernel
theorem d_M_more_7 : decode b_M_more 7 = .ok (.bipush 7, 2) := by decide +kernel
theorem d_M_more_9 : decode b_M_more 9 = .ok (.if_icmp .eq 9, 3) := by decide +kernel
theorem d_M_more_12 : decode b_M_more 12 = .ok (.iload_n 2, 1) := by decide +kernel
theorem d_M_more_13 : decode b_M_more 13 = .ok (.bipush 8, 2) := by decide +kernel
theorem d_M_more_15 : decode b_M_more 15 = .ok (.if_icmp .ne 6, 3) := by decide +kernel
theorem d_M_more_18 : decode b_M_more 18 = .ok (.bipush 8, 2) := by decide +kernel
theorem d_M_more_20 : decode b_M_more 20 = .ok (.ireturn, 1) := by decide +kernel
theorem d_M_more_21 : decode b_M_more 21 = .ok (.iload_n 3, 1) := by decide +kernel
theorem d_M_more_22 : decode b_M_more 22 = .ok (.ifCond .ne 16, 3) := by decide +kernel
theorem d_M_more_25 : decode b_M_more 25 = .ok (.iload_n 2, 1) := by decide +kernel
theorem d_M_more_26 : decode b_M_more 26 = .ok (.bipush 6, 2) := by decide +kernel
theorem d_M_more_28 : decode b_M_more 28 = .ok (.if_icmp .ne 8, 3) := by decide +kernel
theorem d_M_more_31 : decode b_M_more 31 = .ok (.bipush 8, 2) := by decide +kernel
theorem d_M_more_33 : decode b_M_more 33 = .ok (.goto 4, 3) := by decide +kernel
theorem d_M_more_36 : decode b_M_more 36 = .ok (.iconst 1, 1) := by decide +kernel
theorem d_M_more_37 : decode b_M_more 37 = .ok (.ireturn, 1) := by decide +kernel
theorem d_M_more_38 : decode b_M_more 38 = .ok (.iload_n 2, 1) := by decide +kernel
theorem d_M_more_39 : decode b_M_more 39 = .ok (.bipush 6, 2) := by decide +kernel
theorem d_M_more_41 : decode b_M_more 41 = .ok (.if_icmp .eq 9, 3) := by decide +kernel
theorem d_M_more_44 : decode b_M_more 44 = .ok (.iload_n 2, 1) := by decide +kernel
theorem d_M_more_45 : decode b_M_more 45 = .ok (.bipush 9, 2) := by decide +kernel
theorem d_M_more_47 : decode b_M_more 47 = .ok (.if_icmp .ne 5, 3) := by decide +kernel
theorem d_M_more_50 : decode b_M_more 50 = .ok (.iconst 0, 1) := by decide +kernel
theorem d_M_more_51 : decode b_M_more 51 = .ok (.ireturn, 1) := by decide +kernel
theorem d_M_more_52 : decode b_M_more 52 = .ok (.iload_n 2, 1) := by decide +kernel
theorem d_M_more_53 : decode b_M_more 53 = .ok (.iconst 5, 1) := by decide +kernel
theorem d_M_more_54 : decode b_M_more 54 = .ok (.if_icmp .ne 16, 3) := by decide +kernel
theorem d_M_more_57 : decode b_M_more 57 = .ok (.aload_n 0, 1) := by decide +kernel
theorem d_M_more_58 : decode b_M_more 58 = .ok (.iload_n 1, 1) := by decide +kernel
theorem d_M_more_59 : decode b_M_more 59 = .ok (.invokevirtual 63, 3) := by decide +kernel
theorem d_M_more_62 : decode b_M_more 62 = .ok (.iconst 1, 1) := by decide +kernel
theorem d_M_more_63 : decode b_M_more 63 = .ok (.if_icmp .ne 7, 3) := by decide +kernel
theorem d_M_more_66 : decode b_M_more 66 = .ok (.iconst 0, 1) := by decide +kernel
theorem d_M_more_67 : decode b_M_more 67 = .ok (.goto 5, 3) := by decide +kernel
theorem d_M_more_70 : decode b_M_more 70 = .ok (.bipush 8, 2) := by decide +kernel
theorem d_M_more_72 : decode b_M_more 72 = .ok (.ireturn, 1) := by decide +kernel
theorem d_M_happens_0 : decode b_M_happens 0 = .ok (.aload_n 0, 1) := by decide +kernel
theorem d_M_happens_1 : decode b_M_happens 1 = .ok (.getfield 35, 3) := by decide +kernel
theorem d_M_happens_4 : decode b_M_happens 4 = .ok (.iload_n 1, 1) := by decide +kernel
theorem d_M_happens_5 : decode b_M_happens 5 = .ok (.baload, 1) := by decide +kernel
theorem d_M_happens_6 : decode b_M_happens 6 = .ok (.ifCond .ne 168, 3) := by decide +kernel
theorem d_M_happens_9 : decode b_M_happens 9 = .ok (.iload_n 3, 1) := by decide +kernel
theorem d_M_happens_10 : decode b_M_happens 10 = .ok (.ifCond .eq 69, 3) := by decide +kernel
theorem d_M_happens_13 : decode b_M_happens 13 = .ok (.aload_n 0, 1) := by decide +kernel
theorem d_M_happens_14 : decode b_M_happens 14 = .ok (.getfield 7, 3) := by decide +kernel
theorem d_M_happens_17 : decode b_M_happens 17 = .ok (.iload_n 1, 1) := by decide +kernel
theorem d_M_happens_18 : decode b_M_happens 18 = .ok (.aload_n 0, 1) := by decide +kernel
theorem d_M_happens_19 : decode b_M_happens 19 = .ok (.getfield 7, 3) := by decide +kernel
theorem d_M_happens_22 : decode b_M_happens 22 = .ok (.iload_n 1, 1) := by decide +kernel
theorem d_M_happens_23 : decode b_M_happens 23 = .ok (.iaload, 1) := by decide +kernel
theorem d_M_happens_24 : decode b_M_happens 24 = .ok (.aload_n 0, 1) := by decide +kernel
theorem d_M_happens_25 : decode b_M_happens 25 = .ok (.iload_n 1, 1) := by decide +kernel
theorem d_M_happens_26 : decode b_M_happens 26 = .ok (.iload_n 2, 1) := by decide +kernel
theorem d_M_happens_27 : decode b_M_happens 27 = .ok (.iconst 1, 1) := by decide +kernel
theorem d_M_happens_28 : decode b_M_happens 28 = .ok (.invokevirtual 67, 3) := by decide +kernel
theorem d_M_happens_31 : decode b_M_happens 31 = .ok (.iadd, 1) := by decide +kernel
theorem d_M_happens_32 : decode b_M_happens 32 = .ok (.iastore, 1) := by decide +kernel
theorem d_M_happens_33 : decode b_M_happens 33 = .ok (.aload_n 0, 1) := by decide +kernel
theorem d_M_happens_34 : decode b_M_happens 34 = .ok (.getfield 7, 3) := by decide +kernel
theorem d_M_happens_37 : decode b_M_happens 37 = .ok (.iload_n 1, 1) := by decide +kernel
theorem d_M_happens_38 : decode b_M_happens 38 = .ok (.aload_n 0, 1) := by decide +kernel
theorem d_M_happens_39 : decode b_M_happens 39 = .ok (.getfield 7, 3) := by decide +kernel
theorem d_M_happens_42 : decode b_M_happens 42 = .ok (.iload_n 1, 1) := by decide +kernel
theorem d_M_happens_43 : decode b_M_happens 43 = .ok (.iaload, 1) := by decide +kernel
theorem d_M_happens_44 : decode b_M_happens 44 = .ok (.ifCond .ge 7, 3) := by decide +kernel
theorem d_M_happens_47 : decode b_M_happens 47 = .ok (.iconst 0, 1) := by decide +kernel
theorem d_M_happens_48 : decode b_M_happens 48 = .ok (.goto 27, 3) := by decide +kernel
theorem d_M_happens_51 : decode b_M_happens 51 = .ok (.aload_n 0, 1) := by decide +kernel
theorem d_M_happens_52 : decode b_M_happens 52 = .ok (.getfield 7, 3) := by decide +kernel
theorem d_M_happens_55 : decode b_M_happens 55 = .ok (.iload_n 1, 1) := by decide +kernel
theorem d_M_happens_56 : decode b_M_happens 56 = .ok (.iaload, 1) := by decide +kernel
theorem d_M_happens_57 : decode b_M_happens 57 = .ok (.sipush 256, 3) := by decide +kernel
theorem d_M_happens_60 : decode b_M_happens 60 = .ok (.if_icmp .le 9, 3) := by decide +kernel
theorem d_M_happens_63 : decode b_M_happens 63 = .ok (.sipush 256, 3) := by decide +kernel
theorem d_M_happens_66 : decode b_M_happens 66 = .ok (.goto 9, 3) := by decide +kernel
theorem d_M_happens_69 : decode b_M_happens 69 = .ok (.aload_n 0, 1) := by decide +kernel
theorem d_M_happens_70 : decode b_M_happens 70 = .ok (.getfield 7, 3) := by decide +kernel
theorem d_M_happens_73 : decode b_M_happens 73 = .ok (.iload_n 1, 1) := by decide +kernel
theorem d_M_happens_74 : decode b_M_happens 74 = .ok (.iaload, 1) := by decide +kernel
theorem d_M_happens_75 : decode b_M_happens 75 = .ok (.iastore, 1) := by decide +kernel
theorem d_M_happens_76 : decode b_M_happens 76 = .ok (.goto 98, 3) := by decide +kernel
theorem d_M_happens_79 : decode b_M_happens 79 = .ok (.iload_n 2, 1) := by decide +kernel
theorem d_M_happens_80 : decode b_M_happens 80 = .ok (.ifCond .ne 18, 3) := by decide +kernel
theorem d_M_happens_83 : decode b_M_happens 83 = .ok (.aload_n 0, 1) := by decide +kernel
theorem d_M_happens_84 : decode b_M_happens 84 = .ok (.getfield 13, 3) := by decide +kernel
theorem d_M_happens_87 : decode b_M_happens 87 = .ok (.iload_n 1, 1) := by decide +kernel
theorem d_M_happens_88 : decode b_M_happens 88 = .ok (.iaload, 1) := by decide +kernel
theorem d_M_happens_89 : decode b_M_happens 89 = .ok (.bipush 127, 2) := by decide +kernel
theorem d_M_happens_91 : decode b_M_happens 91 = .ok (.if_icmp .le 7, 3) := by decide +kernel
theorem d_M_happens_94 : decode b_M_happens 94 = .ok (.iconst 1, 1) := by decide +kernel
theorem d_M_happens_95 : decode b_M_happens 95 = .ok (.goto 4, 3) := by decide +kernel
theorem d_M_happens_98 : decode b_M_happens 98 = .ok (.iconst 0, 1) := by decide +kernel
theorem d_M_happens_99 : decode b_M_happens 99 = .ok (.istore 4, 2) := by decide +kernel
theorem d_M_happens_101 : decode b_M_happens 101 = .ok (.aload_n 0, 1) := by decide +kernel
theorem d_M_happens_102 : decode b_M_happens 102 = .ok (.getfield 13, 3) := by decide +kernel
theorem d_M_happens_105 : decode b_M_happens 105 = .ok (.iload_n 1, 1) := by decide +kernel
theorem d_M_happens_106 : decode b_M_happens 106 = .ok (.iload 4, 2) := by decide +kernel
theorem d_M_happens_108 : decode b_M_happens 108 = .ok (.ifCond .eq 8, 3) := by decide +kernel
theorem d_M_happens_111 : decode b_M_happens 111 = .ok (.bipush 119, 2) := by decide +kernel
theorem d_M_happens_113 : decode b_M_happens 113 = .ok (.goto 17, 3) := by decide +kernel
theorem d_M_happens_116 : decode b_M_happens 116 = .ok (.aload_n 0, 1) := by decide +kernel
theorem d_M_happens_117 : decode b_M_happens 117 = .ok (.getfield 13, 3) := by decide +kernel
theorem d_M_happens_120 : decode b_M_happens 120 = .ok (.iload_n 1, 1) := by decide +kernel
theorem d_M_happens_121 : decode b_M_happens 121 = .ok (.iaload, 1) := by decide +kernel
theorem d_M_happens_122 : decode b_M_happens 122 = .ok (.aload_n 0, 1) := by decide +kernel
theorem d_M_happens_123 : decode b_M_happens 123 = .ok (.iload_n 1, 1) := by decide +kernel
theorem d_M_happens_124 : decode b_M_happens 124 = .ok (.iload_n 2, 1) := by decide +kernel
theorem d_M_happens_125 : decode b_M_happens 125 = .ok (.iconst 0, 1) := by decide +kernel
theorem d_M_happens_126 : decode b_M_happens 126 = .ok (.invokevirtual 67, 3) := by decide +kernel
theorem d_M_happens_129 : decode b_M_happens 129 = .ok (.iadd, 1) := by decide +kernel
theorem d_M_happens_130 : decode b_M_happens 130 = .ok (.iastore, 1) := by decide +kernel
theorem d_M_happens_131 : decode b_M_happens 131 = .ok (.aload_n 0, 1) := by decide +kernel
theorem d_M_happens_132 : decode b_M_happens 132 = .ok (.getfield 13, 3) := by decide +kernel
theorem d_M_happens_135 : decode b_M_happens 135 = .ok (.iload_n 1, 1) := by decide +kernel
theorem d_M_happens_136 : decode b_M_happens 136 = .ok (.aload_n 0, 1) := by decide +kernel
theorem d_M_happens_137 : decode b_M_happens 137 = .ok (.getfield 13, 3) := by decide +kernel
theorem d_M_happens_140 : decode b_M_happens 140 = .ok (.iload_n 1, 1) := by decide +kernel
theorem d_M_happens_141 : decode b_M_happens 141 = .ok (.iaload, 1) := by decide +kernel
theorem d_M_happens_142 : decode b_M_happens 142 = .ok (.ifCond .ge 7, 3) := by decide +kernel
theorem d_M_happens_145 : decode b_M_happens 145 = .ok (.iconst 0, 1) := by decide +kernel
theorem d_M_happens_146 : decode b_M_happens 146 = .ok (.goto 27, 3) := by decide +kernel
theorem d_M_happens_149 : decode b_M_happens 149 = .ok (.aload_n 0, 1) := by decide +kernel
theorem d_M_happens_150 : decode b_M_happens 150 = .ok (.getfield 13, 3) := by decide +kernel
theorem d_M_happens_153 : decode b_M_happens 153 = .ok (.iload_n 1, 1) := by decide +kernel
theorem d_M_happens_154 : decode b_M_happens 154 = .ok (.iaload, 1) := by decide +kernel
theorem d_M_happens_155 : decode b_M_happens 155 = .ok (.sipush 255, 3) := by decide +kernel
theorem d_M_happens_158 : decode b_M_happens 158 = .ok (.if_icmp .le 9, 3) := by decide +kernel
theorem d_M_happens_161 : decode b_M_happens 161 = .ok (.sipush 255, 3) := by decide +kernel
theorem d_M_happens_164 : decode b_M_happens 164 = .ok (.goto 9, 3) := by decide +kernel
theorem d_M_happens_167 : decode b_M_happens 167 = .ok (.aload_n 0, 1) := by decide +kernel
theorem d_M_happens_168 : decode b_M_happens 168 = .ok (.getfield 13, 3) := by decide +kernel
theorem d_M_happens_171 : decode b_M_happens 171 = .ok (.iload_n 1, 1) := by decide +kernel
theorem d_M_happens_172 : decode b_M_happens 172 = .ok (.iaload, 1) := by decide +kernel
theorem d_M_happens_173 : decode b_M_happens 173 = .ok (.iastore, 1) := by decide +kernel
theorem d_M_happens_174 : decode b_M_happens 174 = .ok (.iload_n 2, 1) := by decide +kernel
theorem d_M_happens_175 : decode b_M_happens 175 = .ok (.ifCond .eq 12, 3) := by decide +kernel
theorem d_M_happens_178 : decode b_M_happens 178 = .ok (.aload_n 0, 1) := by decide +kernel
theorem d_M_happens_179 : decode b_M_happens 179 = .ok (.getfield 35, 3) := by decide +kernel
theorem d_M_happens_182 : decode b_M_happens 182 = .ok (.iload_n 1, 1) := by decide +kernel
theorem d_M_happens_183 : decode b_M_happens 183 = .ok (.baload, 1) := by decide +kernel
theorem d_M_happens_184 : decode b_M_happens 184 = .ok (.ifCond .eq 13, 3) := by decide +kernel
theorem d_M_happens_187 : decode b_M_happens 187 = .ok (.aload_n 0, 1) := by decide +kernel
theorem d_M_happens_188 : decode b_M_happens 188 = .ok (.getfield 20, 3) := by decide +kernel
theorem d_M_happens_191 : decode b_M_happens 191 = .ok (.iload_n 1, 1) := by decide +kernel
theorem d_M_happens_192 : decode b_M_happens 192 = .ok (.iconst 0, 1) := by decide +kernel
theorem d_M_happens_193 : decode b_M_happens 193 = .ok (.iastore, 1) := by decide +kernel
theorem d_M_happens_194 : decode b_M_happens 194 = .ok (.goto 86, 3) := by decide +kernel
theorem d_M_happens_197 : decode b_M_happens 197 = .ok (.iload_n 2, 1) := by decide +kernel
theorem d_M_happens_198 : decode b_M_happens 198 = .ok (.invokestatic 71, 3) := by decide +kernel
theorem d_M_happens_201 : decode b_M_happens 201 = .ok (.ifCond .eq 14, 3) := by decide +kernel
theorem d_M_happens_204 : decode b_M_happens 204 = .ok (.aload_n 0, 1) := by decide +kernel
theorem d_M_happens_205 : decode b_M_happens 205 = .ok (.getfield 20, 3) := by decide +kernel
theorem d_M_happens_208 : decode b_M_happens 208 = .ok (.iload_n 1, 1) := by decide +kernel
theorem d_M_happens_209 : decode b_M_happens 209 = .ok (.bipush 6, 2) := by decide +kernel
theorem d_M_happens_211 : decode b_M_happens 211 = .ok (.iastore, 1) := by decide +kernel
theorem d_M_happens_212 : decode b_M_happens 212 = .ok (.goto 68, 3) := by decide +kernel
theorem d_M_happens_215 : decode b_M_happens 215 = .ok (.aload_n 0, 1) := by decide +kernel
theorem d_M_happens_216 : decode b_M_happens 216 = .ok (.getfield 20, 3) := by decide +kernel
theorem d_M_happens_219 : decode b_M_happens 219 = .ok (.iload_n 1, 1) := by decide +kernel
theorem d_M_happens_220 : decode b_M_happens 220 = .ok (.iaload, 1) := by decide +kernel
theorem d_M_happens_221 : decode b_M_happens 221 = .ok (.ifCond .le 59, 3) := by decide +kernel
theorem d_M_happens_224 : decode b_M_happens 224 = .ok (.aload_n 0, 1) := by decide +kernel
theorem d_M_happens_225 : decode b_M_happens 225 = .ok (.getfield 20, 3) := by decide +kernel
theorem d_M_happens_228 : decode b_M_happens 228 = .ok (.iload_n 1, 1) := by decide +kernel
theorem d_M_happens_229 : decode b_M_happens 229 = .ok (.aload_n 0, 1) := by decide +kernel
theorem d_M_happens_230 : decode b_M_happens 230 = .ok (.getfield 20, 3) := by decide +kernel
theorem d_M_happens_233 : decode b_M_happens 233 = .ok (.iload_n 1, 1) := by decide +kernel
theorem d_M_happens_234 : decode b_M_happens 234 = .ok (.iaload, 1) := by decide +kernel
theorem d_M_happens_235 : decode b_M_happens 235 = .ok (.iload_n 2, 1) := by decide +kernel
theorem d_M_happens_236 : decode b_M_happens 236 = .ok (.bipush 8, 2) := by decide +kernel
theorem d_M_happens_238 : decode b_M_happens 238 = .ok (.if_icmp .ne 8, 3) := by decide +kernel
theorem d_M_happens_241 : decode b_M_happens 241 = .ok (.bipush 8, 2) := by decide +kernel
theorem d_M_happens_243 : decode b_M_happens 243 = .ok (.goto 4, 3) := by decide +kernel
theorem d_M_happens_246 : decode b_M_happens 246 = .ok (.iconst 1, 1) := by decide +kernel
theorem d_M_happens_247 : decode b_M_happens 247 = .ok (.iadd, 1) := by decide +kernel
theorem d_M_happens_248 : decode b_M_happens 248 = .ok (.sipush 10000, 3) := by decide +kernel
theorem d_M_happens_251 : decode b_M_happens 251 = .ok (.if_icmp .le 9, 3) := by decide +kernel
theorem d_M_happens_254 : decode b_M_happens 254 = .ok (.sipush 10000, 3) := by decide +kernel
theorem d_M_happens_257 : decode b_M_happens 257 = .ok (.goto 22, 3) := by decide +kernel
theorem d_M_happens_260 : decode b_M_happens 260 = .ok (.aload_n 0, 1) := by decide +kernel
theorem d_M_happens_261 : decode b_M_happens 261 = .ok (.getfield 20, 3) := by decide +kernel
theorem d_M_happens_264 : decode b_M_happens 264 = .ok (.iload_n 1, 1) := by decide +kernel
theorem d_M_happens_265 : decode b_M_happens 265 = .ok (.iaload, 1) := by decide +kernel
theorem d_M_happens_266 : decode b_M_happens 266 = .ok (.iload_n 2, 1) := by decide +kernel
theorem d_M_happens_267 : decode b_M_happens 267 = .ok (.bipush 8, 2) := by decide +kernel
theorem d_M_happens_269 : decode b_M_happens 269 = .ok (.if_icmp .ne 8, 3) := by decide +kernel
theorem d_M_happens_272 : decode b_M_happens 272 = .ok (.bipush 8, 2) := by decide +kernel
theorem d_M_happens_274 : decode b_M_happens 274 = .ok (.goto 4, 3) := by decide +kernel
theorem d_M_happens_277 : decode b_M_happens 277 = .ok (.iconst 1, 1) := by decide +kernel
theorem d_M_happens_278 : decode b_M_happens 278 = .ok (.iadd, 1) := by decide +kernel
theorem d_M_happens_279 : decode b_M_happens 279 = .ok (.iastore, 1) := by decide +kernel
theorem d_M_happens_280 : decode b_M_happens 280 = .ok (.aload_n 0, 1) := by decide +kernel
theorem d_M_happens_281 : decode b_M_happens 281 = .ok (.getfield 26, 3) := by decide +kernel
theorem d_M_happens_284 : decode b_M_happens 284 = .ok (.iload_n 1, 1) := by decide +kernel
theorem d_M_happens_285 : decode b_M_happens 285 = .ok (.iload_n 3, 1) := by decide +kernel
theorem d_M_happens_286 : decode b_M_happens 286 = .ok (.bastore, 1) := by decide +kernel
theorem d_M_happens_287 : decode b_M_happens 287 = .ok (.iload_n 2, 1) := by decide +kernel
theorem d_M_happens_288 : decode b_M_happens 288 = .ok (.invokestatic 71, 3) := by decide +kernel
theorem d_M_happens_291 : decode b_M_happens 291 = .ok (.ifCond .eq 26, 3) := by decide +kernel
theorem d_M_happens_294 : decode b_M_happens 294 = .ok (.iload_n 3, 1) := by decide +kernel
theorem d_M_happens_295 : decode b_M_happens 295 = .ok (.ifCond .eq 22, 3) := by decide +kernel
theorem d_M_happens_298 : decode b_M_happens 298 = .ok (.aload_n 0, 1) := by decide +kernel
theorem d_M_happens_299 : decode b_M_happens 299 = .ok (.getfield 29, 3) := by decide +kernel
theorem d_M_happens_302 : decode b_M_happens 302 = .ok (.iload_n 1, 1) := by decide +kernel
theorem d_M_happens_303 : decode b_M_happens 303 = .ok (.baload, 1) := by decide +kernel
theorem d_M_happens_304 : decode b_M_happens 304 = .ok (.ifCond .eq 13, 3) := by decide +kernel
theorem d_M_happens_307 : decode b_M_happens 307 = .ok (.aload_n 0, 1) := by decide +kernel
theorem d_M_happens_308 : decode b_M_happens 308 = .ok (.getfield 32, 3) := by decide +kernel
theorem d_M_happens_311 : decode b_M_happens 311 = .ok (.iload_n 1, 1) := by decide +kernel
theorem d_M_happens_312 : decode b_M_happens 312 = .ok (.dup2, 1) := by decide +kernel
theorem d_M_happens_313 : decode b_M_happens 313 = .ok (.iaload, 1) := by decide +kernel
theorem d_M_happens_314 : decode b_M_happens 314 = .ok (.iconst 1, 1) := by decide +kernel
theorem d_M_happens_315 : decode b_M_happens 315 = .ok (.iadd, 1) := by decide +kernel
theorem d_M_happens_316 : decode b_M_happens 316 = .ok (.iastore, 1) := by decide +kernel
theorem d_M_happens_317 : decode b_M_happens 317 = .ok (.aload_n 0, 1) := by decide +kernel
theorem d_M_happens_318 : decode b_M_happens 318 = .ok (.getfield 51, 3) := by decide +kernel
theorem d_M_happens_321 : decode b_M_happens 321 = .ok (.iload_n 1, 1) := by decide +kernel
theorem d_M_happens_322 : decode b_M_happens 322 = .ok (.iload_n 2, 1) := by decide +kernel
theorem d_M_happens_323 : decode b_M_happens 323 = .ok (.invokestatic 71, 3) := by decide +kernel
theorem d_M_happens_326 : decode b_M_happens 326 = .ok (.ifCond .eq 7, 3) := by decide +kernel
theorem d_M_happens_329 : decode b_M_happens 329 = .ok (.iconst 0, 1) := by decide +kernel
theorem d_M_happens_330 : decode b_M_happens 330 = .ok (.goto 24, 3) := by decide +kernel
theorem d_M_happens_333 : decode b_M_happens 333 = .ok (.iload_n 2, 1) := by decide +kernel
theorem d_M_happens_334 : decode b_M_happens 334 = .ok (.ifCond .ne 14, 3) := by decide +kernel
theorem d_M_happens_337 : decode b_M_happens 337 = .ok (.aload_n 0, 1) := by decide +kernel
theorem d_M_happens_338 : decode b_M_happens 338 = .ok (.getfield 51, 3) := by decide +kernel
theorem d_M_happens_341 : decode b_M_happens 341 = .ok (.iload_n 1, 1) := by decide +kernel
theorem d_M_happens_342 : decode b_M_happens 342 = .ok (.iaload, 1) := by decide +kernel
theorem d_M_happens_343 : decode b_M_happens 343 = .ok (.iconst 1, 1) := by decide +kernel
theorem d_M_happens_344 : decode b_M_happens 344 = .ok (.iadd, 1) := by decide +kernel
theorem d_M_happens_345 : decode b_M_happens 345 = .ok (.goto 9, 3) := by decide +kernel
theorem d_M_happens_348 : decode b_M_happens 348 = .ok (.aload_n 0, 1) := by decide +kernel
theorem d_M_happens_349 : decode b_M_happens 349 = .ok (.getfield 51, 3) := by decide +kernel
theorem d_M_happens_352 : decode b_M_happens 352 = .ok (.iload_n 1, 1) := by decide +kernel
theorem d_M_happens_353 : decode b_M_happens 353 = .ok (.iaload, 1) := by decide +kernel
theorem d_M_happens_354 : decode b_M_happens 354 = .ok (.iastore, 1) := by decide +kernel
theorem d_M_happens_355 : decode b_M_happens 355 = .ok (.aload_n 0, 1) := by decide +kernel
theorem d_M_happens_356 : decode b_M_happens 356 = .ok (.getfield 51, 3) := by decide +kernel
theorem d_M_happens_359 : decode b_M_happens 359 = .ok (.iload_n 1, 1) := by decide +kernel
theorem d_M_happens_360 : decode b_M_happens 360 = .ok (.iaload, 1) := by decide +kernel
theorem d_M_happens_361 : decode b_M_happens 361 = .ok (.bipush 100, 2) := by decide +kernel
theorem d_M_happens_363 : decode b_M_happens 363 = .ok (.if_icmp .ne 17, 3) := by decide +kernel
theorem d_M_happens_366 : decode b_M_happens 366 = .ok (.aload_n 0, 1) := by decide +kernel
theorem d_M_happens_367 : decode b_M_happens 367 = .ok (.getfield 51, 3) := by decide +kernel
theorem d_M_happens_370 : decode b_M_happens 370 = .ok (.iload_n 1, 1) := by decide +kernel
theorem d_M_happens_371 : decode b_M_happens 371 = .ok (.iconst 0, 1) := by decide +kernel
theorem d_M_happens_372 : decode b_M_happens 372 = .ok (.iastore, 1) := by decide +kernel
theorem d_M_happens_373 : decode b_M_happens 373 = .ok (.aload_n 0, 1) := by decide +kernel
theorem d_M_happens_374 : decode b_M_happens 374 = .ok (.getfield 48, 3) := by decide +kernel
theorem d_M_happens_377 : decode b_M_happens 377 = .ok (.iload_n 1, 1) := by decide +kernel
theorem d_M_happens_378 : decode b_M_happens 378 = .ok (.iconst 0, 1) := by decide +kernel
theorem d_M_happens_379 : decode b_M_happens 379 = .ok (.iastore, 1) := by decide +kernel
theorem d_M_happens_380 : decode b_M_happens 380 = .ok (.aload_n 0, 1) := by decide +kernel
theorem d_M_happens_381 : decode b_M_happens 381 = .ok (.getfield 7, 3) := by decide +kernel
theorem d_M_happens_384 : decode b_M_happens 384 = .ok (.iload_n 1, 1) := by decide +kernel
theorem d_M_happens_385 : decode b_M_happens 385 = .ok (.iaload, 1) := by decide +kernel
theorem d_M_happens_386 : decode b_M_happens 386 = .ok (.sipush 256, 3) := by decide +kernel
theorem d_M_happens_389 : decode b_M_happens 389 = .ok (.if_icmp .ne 57, 3) := by decide +kernel
theorem d_M_happens_392 : decode b_M_happens 392 = .ok (.aload_n 0, 1) := by decide +kernel
theorem d_M_happens_393 : decode b_M_happens 393 = .ok (.getfield 16, 3) := by decide +kernel
theorem d_M_happens_396 : decode b_M_happens 396 = .ok (.iload_n 1, 1) := by decide +kernel
theorem d_M_happens_397 : decode b_M_happens 397 = .ok (.iconst 1, 1) := by decide +kernel
theorem d_M_happens_398 : decode b_M_happens 398 = .ok (.bastore, 1) := by decide +kernel
theorem d_M_happens_399 : decode b_M_happens 399 = .ok (.aload_n 0, 1) := by decide +kernel
theorem d_M_happens_400 : decode b_M_happens 400 = .ok (.getfield 20, 3) := by decide +kernel
theorem d_M_happens_403 : decode b_M_happens 403 = .ok (.iload_n 1, 1) := by decide +kernel
theorem d_M_happens_404 : decode b_M_happens 404 = .ok (.iconst 0, 1) := by decide +kernel
theorem d_M_happens_405 : decode b_M_happens 405 = .ok (.iastore, 1) := by decide +kernel
theorem d_M_happens_406 : decode b_M_happens 406 = .ok (.aload_n 0, 1) := by decide +kernel
theorem d_M_happens_407 : decode b_M_happens 407 = .ok (.getfield 38, 3) := by decide +kernel
theorem d_M_happens_410 : decode b_M_happens 410 = .ok (.iload_n 1, 1) := by decide +kernel
theorem d_M_happens_411 : decode b_M_happens 411 = .ok (.ldc2_w 61, 3) := by decide +kernel
theorem d_M_happens_414 : decode b_M_happens 414 = .ok (.lastore, 1) := by decide +kernel
theorem d_M_happens_415 : decode b_M_happens 415 = .ok (.aload_n 0, 1) := by decide +kernel
theorem d_M_happens_416 : decode b_M_happens 416 = .ok (.getfield 42, 3) := by decide +kernel
theorem d_M_happens_419 : decode b_M_happens 419 = .ok (.iload_n 1, 1) := by decide +kernel
theorem d_M_happens_420 : decode b_M_happens 420 = .ok (.iconst 0, 1) := by decide +kernel
theorem d_M_happens_421 : decode b_M_happens 421 = .ok (.bastore, 1) := by decide +kernel
theorem d_M_happens_422 : decode b_M_happens 422 = .ok (.aload_n 0, 1) := by decide +kernel
theorem d_M_happens_423 : decode b_M_happens 423 = .ok (.getfield 45, 3) := by decide +kernel
theorem d_M_happens_426 : decode b_M_happens 426 = .ok (.iload_n 1, 1) := by decide +kernel
theorem d_M_happens_427 : decode b_M_happens 427 = .ok (.iconst 0, 1) := by decide +kernel
theorem d_M_happens_428 : decode b_M_happens 428 = .ok (.iastore, 1) := by decide +kernel
theorem d_M_happens_429 : decode b_M_happens 429 = .ok (.aload_n 0, 1) := by decide +kernel
theorem d_M_happens_430 : decode b_M_happens 430 = .ok (.getfield 51, 3) := by decide +kernel
theorem d_M_happens_433 : decode b_M_happens 433 = .ok (.iload_n 1, 1) := by decide +kernel
theorem d_M_happens_434 : decode b_M_happens 434 = .ok (.iconst 0, 1) := by decide +kernel
theorem d_M_happens_435 : decode b_M_happens 435 = .ok (.iastore, 1) := by decide +kernel
theorem d_M_happens_436 : decode b_M_happens 436 = .ok (.aload_n 0, 1) := by decide +kernel
theorem d_M_happens_437 : decode b_M_happens 437 = .ok (.getfield 48, 3) := by decide +kernel
theorem d_M_happens_440 : decode b_M_happens 440 = .ok (.iload_n 1, 1) := by decide +kernel
theorem d_M_happens_441 : decode b_M_happens 441 = .ok (.dup2, 1) := by decide +kernel
theorem d_M_happens_442 : decode b_M_happens 442 = .ok (.iaload, 1) := by decide +kernel
theorem d_M_happens_443 : decode b_M_happens 443 = .ok (.iconst 1, 1) := by decide +kernel
theorem d_M_happens_444 : decode b_M_happens 444 = .ok (.iadd, 1) := by decide +kernel
theorem d_M_happens_445 : decode b_M_happens 445 = .ok (.iastore, 1) := by decide +kernel
theorem d_M_happens_446 : decode b_M_happens 446 = .ok (.aload_n 0, 1) := by decide +kernel
theorem d_M_happens_447 : decode b_M_happens 447 = .ok (.getfield 23, 3) := by decide +kernel
theorem d_M_happens_450 : decode b_M_happens 450 = .ok (.iload_n 1, 1) := by decide +kernel
theorem d_M_happens_451 : decode b_M_happens 451 = .ok (.iload_n 3, 1) := by decide +kernel
theorem d_M_happens_452 : decode b_M_happens 452 = .ok (.ifCond .eq 17, 3) := by decide +kernel
theorem d_M_happens_455 : decode b_M_happens 455 = .ok (.aload_n 0, 1) := by decide +kernel
theorem d_M_happens_456 : decode b_M_happens 456 = .ok (.iload_n 1, 1) := by decide +kernel
theorem d_M_happens_457 : decode b_M_happens 457 = .ok (.invokevirtual 63, 3) := by decide +kernel
theorem d_M_happens_460 : decode b_M_happens 460 = .ok (.iconst 1, 1) := by decide +kernel
theorem d_M_happens_461 : decode b_M_happens 461 = .ok (.if_icmp .ne 8, 3) := by decide +kernel
theorem d_M_happens_464 : decode b_M_happens 464 = .ok (.bipush 11, 2) := by decide +kernel
theorem d_M_happens_466 : decode b_M_happens 466 = .ok (.goto 4, 3) := by decide +kernel
theorem d_M_happens_469 : decode b_M_happens 469 = .ok (.iconst 3, 1) := by decide +kernel
theorem d_M_happens_470 : decode b_M_happens 470 = .ok (.iastore, 1) := by decide +kernel
theorem d_M_happens_471 : decode b_M_happens 471 = .ok (.return_, 1) := by decide +kernel
theorem d_M_event_0 : decode b_M_event 0 = .ok (.aload_n 0, 1) := by decide +kernel
theorem d_M_event_1 : decode b_M_event 1 = .ok (.iload_n 1, 1) := by decide +kernel
theorem d_M_event_2 : decode b_M_event 2 = .ok (.invokevirtual 75, 3) := by decide +kernel
theorem d_M_event_5 : decode b_M_event 5 = .ok (.ifCond .eq 5, 3) := by decide +kernel
theorem d_M_event_8 : decode b_M_event 8 = .ok (.iconst (-1), 1) := by decide +kernel
theorem d_M_event_9 : decode b_M_event 9 = .ok (.ireturn, 1) := by decide +kernel
theorem d_M_event_10 : decode b_M_event 10 = .ok (.iload_n 2, 1) := by decide +kernel
theorem d_M_event_11 : decode b_M_event 11 = .ok (.ifCond .lt 9, 3) := by decide +kernel
theorem d_M_event_14 : decode b_M_event 14 = .ok (.iload_n 2, 1) := by decide +kernel
theorem d_M_event_15 : decode b_M_event 15 = .ok (.bipush 10, 2) := by decide +kernel
theorem d_M_event_17 : decode b_M_event 17 = .ok (.if_icmp .le 6, 3) := by decide +kernel
theorem d_M_event_20 : decode b_M_event 20 = .ok (.bipush (-2), 2) := by decide +kernel
theorem d_M_event_22 : decode b_M_event 22 = .ok (.ireturn, 1) := by decide +kernel
theorem d_M_event_23 : decode b_M_event 23 = .ok (.aload_n 0, 1) := by decide +kernel
theorem d_M_event_24 : decode b_M_event 24 = .ok (.getfield 16, 3) := by decide +kernel
theorem d_M_event_27 : decode b_M_event 27 = .ok (.iload_n 1, 1) := by decide +kernel
theorem d_M_event_28 : decode b_M_event 28 = .ok (.baload, 1) := by decide +kernel
theorem d_M_event_29 : decode b_M_event 29 = .ok (.ifCond .ne 16, 3) := by decide +kernel
theorem d_M_event_32 : decode b_M_event 32 = .ok (.aload_n 0, 1) := by decide +kernel
theorem d_M_event_33 : decode b_M_event 33 = .ok (.getfield 35, 3) := by decide +kernel
theorem d_M_event_36 : decode b_M_event 36 = .ok (.iload_n 1, 1) := by decide +kernel
theorem d_M_event_37 : decode b_M_event 37 = .ok (.baload, 1) := by decide +kernel
theorem d_M_event_38 : decode b_M_event 38 = .ok (.ifCond .eq 10, 3) := by decide +kernel
theorem d_M_event_41 : decode b_M_event 41 = .ok (.iload_n 3, 1) := by decide +kernel
theorem d_M_event_42 : decode b_M_event 42 = .ok (.ifCond .eq 6, 3) := by decide +kernel
theorem d_M_event_45 : decode b_M_event 45 = .ok (.bipush (-3), 2) := by decide +kernel
theorem d_M_event_47 : decode b_M_event 47 = .ok (.ireturn, 1) := by decide +kernel
theorem d_M_event_48 : decode b_M_event 48 = .ok (.aload_n 0, 1) := by decide +kernel
theorem d_M_event_49 : decode b_M_event 49 = .ok (.iload_n 1, 1) := by decide +kernel
theorem d_M_event_50 : decode b_M_event 50 = .ok (.iload_n 2, 1) := by decide +kernel
theorem d_M_event_51 : decode b_M_event 51 = .ok (.iload_n 3, 1) := by decide +kernel
theorem d_M_event_52 : decode b_M_event 52 = .ok (.invokevirtual 78, 3) := by decide +kernel
theorem d_M_event_55 : decode b_M_event 55 = .ok (.aload_n 0, 1) := by decide +kernel
theorem d_M_event_56 : decode b_M_event 56 = .ok (.iload_n 1, 1) := by decide +kernel
theorem d_M_event_57 : decode b_M_event 57 = .ok (.invokevirtual 63, 3) := by decide +kernel
theorem d_M_event_60 : decode b_M_event 60 = .ok (.ireturn, 1) := by decide +kernel
theorem d_M_counter_0 : decode b_M_counter 0 = .ok (.aload_n 0, 1) := by decide +kernel
theorem d_M_counter_1 : decode b_M_counter 1 = .ok (.iload_n 1, 1) := by decide +kernel
theorem d_M_counter_2 : decode b_M_counter 2 = .ok (.invokevirtual 75, 3) := by decide +kernel
theorem d_M_counter_5 : decode b_M_counter 5 = .ok (.ifCond .eq 5, 3) := by decide +kernel
theorem d_M_counter_8 : decode b_M_counter 8 = .ok (.iconst (-1), 1) := by decide +kernel
theorem d_M_counter_9 : decode b_M_counter 9 = .ok (.ireturn, 1) := by decide +kernel
theorem d_M_counter_10 : decode b_M_counter 10 = .ok (.iload_n 2, 1) := by decide +kernel
theorem d_M_counter_11 : decode b_M_counter 11 = .ok (.ifCond .eq 12, 3) := by decide +kernel
theorem d_M_counter_14 : decode b_M_counter 14 = .ok (.aload_n 0, 1) := by decide +kernel
theorem d_M_counter_15 : decode b_M_counter 15 = .ok (.getfield 7, 3) := by decide +kernel
theorem d_M_counter_18 : decode b_M_counter 18 = .ok (.iload_n 1, 1) := by decide +kernel
theorem d_M_counter_19 : decode b_M_counter 19 = .ok (.iaload, 1) := by decide +kernel
theorem d_M_counter_20 : decode b_M_counter 20 = .ok (.goto 9, 3) := by decide +kernel
theorem d_M_counter_23 : decode b_M_counter 23 = .ok (.aload_n 0, 1) := by decide +kernel
theorem d_M_counter_24 : decode b_M_counter 24 = .ok (.getfield 13, 3) := by decide +kernel
theorem d_M_counter_27 : decode b_M_counter 27 = .ok (.iload_n 1, 1) := by decide +kernel
theorem d_M_counter_28 : decode b_M_counter 28 = .ok (.iaload, 1) := by decide +kernel
theorem d_M_counter_29 : decode b_M_counter 29 = .ok (.ireturn, 1) := by decide +kernel
theorem d_M_state_0 : decode b_M_state 0 = .ok (.aload_n 0, 1) := by decide +kernel
theorem d_M_state_1 : decode b_M_state 1 = .ok (.iload_n 1, 1) := by decide +kernel
theorem d_M_state_2 : decode b_M_state 2 = .ok (.invokevirtual 75, 3) := by decide +kernel
theorem d_M_state_5 : decode b_M_state 5 = .ok (.ifCond .eq 7, 3) := by decide +kernel
theorem d_M_state_8 : decode b_M_state 8 = .ok (.iconst (-1), 1) := by decide +kernel
theorem d_M_state_9 : decode b_M_state 9 = .ok (.goto 8, 3) := by decide +kernel
theorem d_M_state_12 : decode b_M_state 12 = .ok (.aload_n 0, 1) := by decide +kernel
theorem d_M_state_13 : decode b_M_state 13 = .ok (.iload_n 1, 1) := by decide +kernel
theorem d_M_state_14 : decode b_M_state 14 = .ok (.invokevirtual 63, 3) := by decide +kernel
theorem d_M_state_17 : decode b_M_state 17 = .ok (.ireturn, 1) := by decide +kernel
theorem d_M_recover_0 : decode b_M_recover 0 = .ok (.aload_n 0, 1) := by decide +kernel
theorem d_M_recover_1 : decode b_M_recover 1 = .ok (.iload_n 1, 1) := by decide +kernel
theorem d_M_recover_2 : decode b_M_recover 2 = .ok (.invokevirtual 75, 3) := by decide +kernel
theorem d_M_recover_5 : decode b_M_recover 5 = .ok (.ifCond .eq 5, 3) := by decide +kernel
theorem d_M_recover_8 : decode b_M_recover 8 = .ok (.iconst (-1), 1) := by decide +kernel
theorem d_M_recover_9 : decode b_M_recover 9 = .ok (.ireturn, 1) := by decide +kernel
theorem d_M_recover_10 : decode b_M_recover 10 = .ok (.iload_n 2, 1) := by decide +kernel
theorem d_M_recover_11 : decode b_M_recover 11 = .ok (.iconst 1, 1) := by decide +kernel
theorem d_M_recover_12 : decode b_M_recover 12 = .ok (.if_icmp .ge 6, 3) := by decide +kernel
theorem d_M_recover_15 : decode b_M_recover 15 = .ok (.bipush (-2), 2) := by decide +kernel
theorem d_M_recover_17 : decode b_M_recover 17 = .ok (.ireturn, 1) := by decide +kernel
theorem d_M_recover_18 : decode b_M_recover 18 = .ok (.aload_n 0, 1) := by decide +kernel
theorem d_M_recover_19 : decode b_M_recover 19 = .ok (.getfield 16, 3) := by decide +kernel
theorem d_M_recover_22 : decode b_M_recover 22 = .ok (.iload_n 1, 1) := by decide +kernel
theorem d_M_recover_23 : decode b_M_recover 23 = .ok (.baload, 1) := by decide +kernel
theorem d_M_recover_24 : decode b_M_recover 24 = .ok (.ifCond .eq 12, 3) := by decide +kernel
theorem d_M_recover_27 : decode b_M_recover 27 = .ok (.aload_n 0, 1) := by decide +kernel
theorem d_M_recover_28 : decode b_M_recover 28 = .ok (.getfield 42, 3) := by decide +kernel
theorem d_M_recover_31 : decode b_M_recover 31 = .ok (.iload_n 1, 1) := by decide +kernel
theorem d_M_recover_32 : decode b_M_recover 32 = .ok (.baload, 1) := by decide +kernel
theorem d_M_recover_33 : decode b_M_recover 33 = .ok (.ifCond .ne 6, 3) := by decide +kernel
theorem d_M_recover_36 : decode b_M_recover 36 = .ok (.bipush (-3), 2) := by decide +kernel
theorem d_M_recover_38 : decode b_M_recover 38 = .ok (.ireturn, 1) := by decide +kernel
theorem d_M_recover_39 : decode b_M_recover 39 = .ok (.aload_n 0, 1) := by decide +kernel
theorem d_M_recover_40 : decode b_M_recover 40 = .ok (.getfield 45, 3) := by decide +kernel
theorem d_M_recover_43 : decode b_M_recover 43 = .ok (.iload_n 1, 1) := by decide +kernel
theorem d_M_recover_44 : decode b_M_recover 44 = .ok (.iload_n 2, 1) := by decide +kernel
theorem d_M_recover_45 : decode b_M_recover 45 = .ok (.sipush 128, 3) := by decide +kernel
theorem d_M_recover_48 : decode b_M_recover 48 = .ok (.aload_n 0, 1) := by decide +kernel
theorem d_M_recover_49 : decode b_M_recover 49 = .ok (.getfield 45, 3) := by decide +kernel
theorem d_M_recover_52 : decode b_M_recover 52 = .ok (.iload_n 1, 1) := by decide +kernel
theorem d_M_recover_53 : decode b_M_recover 53 = .ok (.iaload, 1) := by decide +kernel
theorem d_M_recover_54 : decode b_M_recover 54 = .ok (.isub, 1) := by decide +kernel
theorem d_M_recover_55 : decode b_M_recover 55 = .ok (.if_icmp .le 9, 3) := by decide +kernel
theorem d_M_recover_58 : decode b_M_recover 58 = .ok (.sipush 128, 3) := by decide +kernel
theorem d_M_recover_61 : decode b_M_recover 61 = .ok (.goto 11, 3) := by decide +kernel
theorem d_M_recover_64 : decode b_M_recover 64 = .ok (.aload_n 0, 1) := by decide +kernel
theorem d_M_recover_65 : decode b_M_recover 65 = .ok (.getfield 45, 3) := by decide +kernel
theorem d_M_recover_68 : decode b_M_recover 68 = .ok (.iload_n 1, 1) := by decide +kernel
theorem d_M_recover_69 : decode b_M_recover 69 = .ok (.iaload, 1) := by decide +kernel
theorem d_M_recover_70 : decode b_M_recover 70 = .ok (.iload_n 2, 1) := by decide +kernel
theorem d_M_recover_71 : decode b_M_recover 71 = .ok (.iadd, 1) := by decide +kernel
theorem d_M_recover_72 : decode b_M_recover 72 = .ok (.iastore, 1) := by decide +kernel
theorem d_M_recover_73 : decode b_M_recover 73 = .ok (.aload_n 0, 1) := by decide +kernel
theorem d_M_recover_74 : decode b_M_recover 74 = .ok (.getfield 45, 3) := by decide +kernel
theorem d_M_recover_77 : decode b_M_recover 77 = .ok (.iload_n 1, 1) := by decide +kernel
theorem d_M_recover_78 : decode b_M_recover 78 = .ok (.iaload, 1) := by decide +kernel
theorem d_M_recover_79 : decode b_M_recover 79 = .ok (.sipush 128, 3) := by decide +kernel
theorem d_M_recover_82 : decode b_M_recover 82 = .ok (.if_icmp .ne 38, 3) := by decide +kernel
theorem d_M_recover_85 : decode b_M_recover 85 = .ok (.aload_n 0, 1) := by decide +kernel
theorem d_M_recover_86 : decode b_M_recover 86 = .ok (.getfield 16, 3) := by decide +kernel
theorem d_M_recover_89 : decode b_M_recover 89 = .ok (.iload_n 1, 1) := by decide +kernel
theorem d_M_recover_90 : decode b_M_recover 90 = .ok (.iconst 0, 1) := by decide +kernel
theorem d_M_recover_91 : decode b_M_recover 91 = .ok (.bastore, 1) := by decide +kernel
theorem d_M_recover_92 : decode b_M_recover 92 = .ok (.aload_n 0, 1) := by decide +kernel
theorem d_M_recover_93 : decode b_M_recover 93 = .ok (.getfield 7, 3) := by decide +kernel
theorem d_M_recover_96 : decode b_M_recover 96 = .ok (.iload_n 1, 1) := by decide +kernel
theorem d_M_recover_97 : decode b_M_recover 97 = .ok (.iconst 0, 1) := by decide +kernel
theorem d_M_recover_98 : decode b_M_recover 98 = .ok (.iastore, 1) := by decide +kernel
theorem d_M_recover_99 : decode b_M_recover 99 = .ok (.aload_n 0, 1) := by decide +kernel
theorem d_M_recover_100 : decode b_M_recover 100 = .ok (.getfield 13, 3) := by decide +kernel
theorem d_M_recover_103 : decode b_M_recover 103 = .ok (.iload_n 1, 1) := by decide +kernel
theorem d_M_recover_104 : decode b_M_recover 104 = .ok (.iconst 0, 1) := by decide +kernel
theorem d_M_recover_105 : decode b_M_recover 105 = .ok (.iastore, 1) := by decide +kernel
theorem d_M_recover_106 : decode b_M_recover 106 = .ok (.aload_n 0, 1) := by decide +kernel
theorem d_M_recover_107 : decode b_M_recover 107 = .ok (.getfield 20, 3) := by decide +kernel
theorem d_M_recover_110 : decode b_M_recover 110 = .ok (.iload_n 1, 1) := by decide +kernel
theorem d_M_recover_111 : decode b_M_recover 111 = .ok (.iconst 0, 1) := by decide +kernel
theorem d_M_recover_112 : decode b_M_recover 112 = .ok (.iastore, 1) := by decide +kernel
theorem d_M_recover_113 : decode b_M_recover 113 = .ok (.aload_n 0, 1) := by decide +kernel
theorem d_M_recover_114 : decode b_M_recover 114 = .ok (.getfield 23, 3) := by decide +kernel
theorem d_M_recover_117 : decode b_M_recover 117 = .ok (.iload_n 1, 1) := by decide +kernel
theorem d_M_recover_118 : decode b_M_recover 118 = .ok (.iconst 0, 1) := by decide +kernel
theorem d_M_recover_119 : decode b_M_recover 119 = .ok (.iastore, 1) := by decide +kernel
theorem d_M_recover_120 : decode b_M_recover 120 = .ok (.aload_n 0, 1) := by decide +kernel
theorem d_M_recover_121 : decode b_M_recover 121 = .ok (.iload_n 1, 1) := by decide +kernel
theorem d_M_recover_122 : decode b_M_recover 122 = .ok (.invokevirtual 63, 3) := by decide +kernel
theorem d_M_recover_125 : decode b_M_recover 125 = .ok (.ireturn, 1) := by decide +kernel
theorem d_M_flag_0 : decode b_M_flag 0 = .ok (.aload_n 0, 1) := by decide +kernel
theorem d_M_flag_1 : decode b_M_flag 1 = .ok (.iload_n 1, 1) := by decide +kernel
theorem d_M_flag_2 : decode b_M_flag 2 = .ok (.invokevirtual 75, 3) := by decide +kernel
theorem d_M_flag_5 : decode b_M_flag 5 = .ok (.ifCond .eq 7, 3) := by decide +kernel
theorem d_M_flag_8 : decode b_M_flag 8 = .ok (.iconst (-1), 1) := by decide +kernel
theorem d_M_flag_9 : decode b_M_flag 9 = .ok (.goto 9, 3) := by decide +kernel
theorem d_M_flag_12 : decode b_M_flag 12 = .ok (.aload_n 0, 1) := by decide +kernel
theorem d_M_flag_13 : decode b_M_flag 13 = .ok (.getfield 20, 3) := by decide +kernel
theorem d_M_flag_16 : decode b_M_flag 16 = .ok (.iload_n 1, 1) := by decide +kernel
theorem d_M_flag_17 : decode b_M_flag 17 = .ok (.iaload, 1) := by decide +kernel
theorem d_M_flag_18 : decode b_M_flag 18 = .ok (.ireturn, 1) := by decide +kernel
theorem d_M_manager_0 : decode b_M_manager 0 = .ok (.aload_n 0, 1) := by decide +kernel
theorem d_M_manager_1 : decode b_M_manager 1 = .ok (.iload_n 1, 1) := by decide +kernel
theorem d_M_manager_2 : decode b_M_manager 2 = .ok (.invokevirtual 75, 3) := by decide +kernel
theorem d_M_manager_5 : decode b_M_manager 5 = .ok (.ifCond .eq 5, 3) := by decide +kernel
theorem d_M_manager_8 : decode b_M_manager 8 = .ok (.iconst (-1), 1) := by decide +kernel
theorem d_M_manager_9 : decode b_M_manager 9 = .ok (.ireturn, 1) := by decide +kernel
theorem d_M_manager_10 : decode b_M_manager 10 = .ok (.lload_n 2, 1) := by decide +kernel
theorem d_M_manager_11 : decode b_M_manager 11 = .ok (.lconst 0, 1) := by decide +kernel
theorem d_M_manager_12 : decode b_M_manager 12 = .ok (.lcmp, 1) := by decide +kernel
theorem d_M_manager_13 : decode b_M_manager 13 = .ok (.ifCond .lt 12, 3) := by decide +kernel
theorem d_M_manager_16 : decode b_M_manager 16 = .ok (.lload_n 2, 1) := by decide +kernel
theorem d_M_manager_17 : decode b_M_manager 17 = .ok (.aload_n 0, 1) := by decide +kernel
theorem d_M_manager_18 : decode b_M_manager 18 = .ok (.getfield 82, 3) := by decide +kernel
theorem d_M_manager_21 : decode b_M_manager 21 = .ok (.lcmp, 1) := by decide +kernel
theorem d_M_manager_22 : decode b_M_manager 22 = .ok (.ifCond .ge 6, 3) := by decide +kernel
theorem d_M_manager_25 : decode b_M_manager 25 = .ok (.bipush (-2), 2) := by decide +kernel
theorem d_M_manager_27 : decode b_M_manager 27 = .ok (.ireturn, 1) := by decide +kernel
theorem d_M_manager_28 : decode b_M_manager 28 = .ok (.aload_n 0, 1) := by decide +kernel
theorem d_M_manager_29 : decode b_M_manager 29 = .ok (.lload_n 2, 1) := by decide +kernel
theorem d_M_manager_30 : decode b_M_manager 30 = .ok (.putfield 82, 3) := by decide +kernel
theorem d_M_manager_33 : decode b_M_manager 33 = .ok (.aload_n 0, 1) := by decide +kernel
theorem d_M_manager_34 : decode b_M_manager 34 = .ok (.getfield 16, 3) := by decide +kernel
theorem d_M_manager_37 : decode b_M_manager 37 = .ok (.iload_n 1, 1) := by decide +kernel
theorem d_M_manager_38 : decode b_M_manager 38 = .ok (.baload, 1) := by decide +kernel
theorem d_M_manager_39 : decode b_M_manager 39 = .ok (.ifCond .ne 5, 3) := by decide +kernel
theorem d_M_manager_42 : decode b_M_manager 42 = .ok (.iconst 1, 1) := by decide +kernel
theorem d_M_manager_43 : decode b_M_manager 43 = .ok (.ireturn, 1) := by decide +kernel
theorem d_M_manager_44 : decode b_M_manager 44 = .ok (.aload_n 0, 1) := by decide +kernel
theorem d_M_manager_45 : decode b_M_manager 45 = .ok (.getfield 38, 3) := by decide +kernel
theorem d_M_manager_48 : decode b_M_manager 48 = .ok (.iload_n 1, 1) := by decide +kernel
theorem d_M_manager_49 : decode b_M_manager 49 = .ok (.aload_n 0, 1) := by decide +kernel
theorem d_M_manager_50 : decode b_M_manager 50 = .ok (.getfield 38, 3) := by decide +kernel
theorem d_M_manager_53 : decode b_M_manager 53 = .ok (.iload_n 1, 1) := by decide +kernel
theorem d_M_manager_54 : decode b_M_manager 54 = .ok (.laload, 1) := by decide +kernel
theorem d_M_manager_55 : decode b_M_manager 55 = .ok (.lconst 0, 1) := by decide +kernel
theorem d_M_manager_56 : decode b_M_manager 56 = .ok (.lcmp, 1) := by decide +kernel
theorem d_M_manager_57 : decode b_M_manager 57 = .ok (.ifCond .ge 7, 3) := by decide +kernel
theorem d_M_manager_60 : decode b_M_manager 60 = .ok (.lload_n 2, 1) := by decide +kernel
theorem d_M_manager_61 : decode b_M_manager 61 = .ok (.goto 9, 3) := by decide +kernel
theorem d_M_manager_64 : decode b_M_manager 64 = .ok (.aload_n 0, 1) := by decide +kernel
theorem d_M_manager_65 : decode b_M_manager 65 = .ok (.getfield 38, 3) := by decide +kernel
theorem d_M_manager_68 : decode b_M_manager 68 = .ok (.iload_n 1, 1) := by decide +kernel
theorem d_M_manager_69 : decode b_M_manager 69 = .ok (.laload, 1) := by decide +kernel
theorem d_M_manager_70 : decode b_M_manager 70 = .ok (.lastore, 1) := by decide +kernel
theorem d_M_manager_71 : decode b_M_manager 71 = .ok (.lload_n 2, 1) := by decide +kernel
theorem d_M_manager_72 : decode b_M_manager 72 = .ok (.aload_n 0, 1) := by decide +kernel
theorem d_M_manager_73 : decode b_M_manager 73 = .ok (.getfield 38, 3) := by decide +kernel
theorem d_M_manager_76 : decode b_M_manager 76 = .ok (.iload_n 1, 1) := by decide +kernel
theorem d_M_manager_77 : decode b_M_manager 77 = .ok (.laload, 1) := by decide +kernel
theorem d_M_manager_78 : decode b_M_manager 78 = .ok (.lsub, 1) := by decide +kernel
theorem d_M_manager_79 : decode b_M_manager 79 = .ok (.lstore 4, 2) := by decide +kernel
theorem d_M_manager_81 : decode b_M_manager 81 = .ok (.aload_n 0, 1) := by decide +kernel
theorem d_M_manager_82 : decode b_M_manager 82 = .ok (.getfield 42, 3) := by decide +kernel
theorem d_M_manager_85 : decode b_M_manager 85 = .ok (.iload_n 1, 1) := by decide +kernel
theorem d_M_manager_86 : decode b_M_manager 86 = .ok (.aload_n 0, 1) := by decide +kernel
theorem d_M_manager_87 : decode b_M_manager 87 = .ok (.getfield 42, 3) := by decide +kernel
theorem d_M_manager_90 : decode b_M_manager 90 = .ok (.iload_n 1, 1) := by decide +kernel
theorem d_M_manager_91 : decode b_M_manager 91 = .ok (.baload, 1) := by decide +kernel
theorem d_M_manager_92 : decode b_M_manager 92 = .ok (.ifCond .ne 32, 3) := by decide +kernel
theorem d_M_manager_95 : decode b_M_manager 95 = .ok (.lload 4, 2) := by decide +kernel
theorem d_M_manager_97 : decode b_M_manager 97 = .ok (.ldc2_w 86, 3) := by decide +kernel
theorem d_M_manager_100 : decode b_M_manager 100 = .ok (.lcmp, 1) := by decide +kernel
theorem d_M_manager_101 : decode b_M_manager 101 = .ok (.ifCond .ge 23, 3) := by decide +kernel
theorem d_M_manager_104 : decode b_M_manager 104 = .ok (.lload 4, 2) := by decide +kernel
theorem d_M_manager_106 : decode b_M_manager 106 = .ok (.ldc2_w 88, 3) := by decide +kernel
theorem d_M_manager_109 : decode b_M_manager 109 = .ok (.lcmp, 1) := by decide +kernel
theorem d_M_manager_110 : decode b_M_manager 110 = .ok (.ifCond .lt 18, 3) := by decide +kernel
theorem d_M_manager_113 : decode b_M_manager 113 = .ok (.aload_n 0, 1) := by decide +kernel
theorem d_M_manager_114 : decode b_M_manager 114 = .ok (.getfield 48, 3) := by decide +kernel
theorem d_M_manager_117 : decode b_M_manager 117 = .ok (.iload_n 1, 1) := by decide +kernel
theorem d_M_manager_118 : decode b_M_manager 118 = .ok (.iaload, 1) := by decide +kernel
theorem d_M_manager_119 : decode b_M_manager 119 = .ok (.bipush 6, 2) := by decide +kernel
theorem d_M_manager_121 : decode b_M_manager 121 = .ok (.if_icmp .ge 7, 3) := by decide +kernel
theorem d_M_manager_124 : decode b_M_manager 124 = .ok (.iconst 1, 1) := by decide +kernel
theorem d_M_manager_125 : decode b_M_manager 125 = .ok (.goto 4, 3) := by decide +kernel
theorem d_M_manager_128 : decode b_M_manager 128 = .ok (.iconst 0, 1) := by decide +kernel
theorem d_M_manager_129 : decode b_M_manager 129 = .ok (.bastore, 1) := by decide +kernel
theorem d_M_manager_130 : decode b_M_manager 130 = .ok (.aload_n 0, 1) := by decide +kernel
theorem d_M_manager_131 : decode b_M_manager 131 = .ok (.getfield 42, 3) := by decide +kernel
theorem d_M_manager_134 : decode b_M_manager 134 = .ok (.iload_n 1, 1) := by decide +kernel
theorem d_M_manager_135 : decode b_M_manager 135 = .ok (.baload, 1) := by decide +kernel
theorem d_M_manager_136 : decode b_M_manager 136 = .ok (.ifCond .eq 7, 3) := by decide +kernel
theorem d_M_manager_139 : decode b_M_manager 139 = .ok (.iconst 1, 1) := by decide +kernel
theorem d_M_manager_140 : decode b_M_manager 140 = .ok (.goto 4, 3) := by decide +kernel
theorem d_M_manager_143 : decode b_M_manager 143 = .ok (.iconst 0, 1) := by decide +kernel
theorem d_M_manager_144 : decode b_M_manager 144 = .ok (.ireturn, 1) := by decide +kernel
theorem d_M_shot_0 : decode b_M_shot 0 = .ok (.aload_n 0, 1) := by decide +kernel
theorem d_M_shot_1 : decode b_M_shot 1 = .ok (.iload_n 1, 1) := by decide +kernel
theorem d_M_shot_2 : decode b_M_shot 2 = .ok (.invokevirtual 75, 3) := by decide +kernel
theorem d_M_shot_5 : decode b_M_shot 5 = .ok (.ifCond .eq 5, 3) := by decide +kernel
theorem d_M_shot_8 : decode b_M_shot 8 = .ok (.iconst (-1), 1) := by decide +kernel
theorem d_M_shot_9 : decode b_M_shot 9 = .ok (.ireturn, 1) := by decide +kernel
theorem d_M_shot_10 : decode b_M_shot 10 = .ok (.aload_n 0, 1) := by decide +kernel
theorem d_M_shot_11 : decode b_M_shot 11 = .ok (.getfield 29, 3) := by decide +kernel
theorem d_M_shot_14 : decode b_M_shot 14 = .ok (.iload_n 1, 1) := by decide +kernel
theorem d_M_shot_15 : decode b_M_shot 15 = .ok (.iload_n 2, 1) := by decide +kernel
theorem d_M_shot_16 : decode b_M_shot 16 = .ok (.bastore, 1) := by decide +kernel
theorem d_M_shot_17 : decode b_M_shot 17 = .ok (.aload_n 0, 1) := by decide +kernel
theorem d_M_shot_18 : decode b_M_shot 18 = .ok (.getfield 32, 3) := by decide +kernel
theorem d_M_shot_21 : decode b_M_shot 21 = .ok (.iload_n 1, 1) := by decide +kernel
theorem d_M_shot_22 : decode b_M_shot 22 = .ok (.iaload, 1) := by decide +kernel
theorem d_M_shot_23 : decode b_M_shot 23 = .ok (.ireturn, 1) := by decide +kernel
theorem d_M_listen_0 : decode b_M_listen 0 = .ok (.aload_n 0, 1) := by decide +kernel
theorem d_M_listen_1 : decode b_M_listen 1 = .ok (.iload_n 1, 1) := by decide +kernel
theorem d_M_listen_2 : decode b_M_listen 2 = .ok (.invokevirtual 75, 3) := by decide +kernel
theorem d_M_listen_5 : decode b_M_listen 5 = .ok (.ifCond .eq 5, 3) := by decide +kernel
theorem d_M_listen_8 : decode b_M_listen 8 = .ok (.iconst (-1), 1) := by decide +kernel
theorem d_M_listen_9 : decode b_M_listen 9 = .ok (.ireturn, 1) := by decide +kernel
theorem d_M_listen_10 : decode b_M_listen 10 = .ok (.aload_n 0, 1) := by decide +kernel
theorem d_M_listen_11 : decode b_M_listen 11 = .ok (.getfield 16, 3) := by decide +kernel
theorem d_M_listen_14 : decode b_M_listen 14 = .ok (.iload_n 1, 1) := by decide +kernel
theorem d_M_listen_15 : decode b_M_listen 15 = .ok (.baload, 1) := by decide +kernel
theorem d_M_listen_16 : decode b_M_listen 16 = .ok (.ifCond .eq 6, 3) := by decide +kernel
theorem d_M_listen_19 : decode b_M_listen 19 = .ok (.bipush (-3), 2) := by decide +kernel
theorem d_M_listen_21 : decode b_M_listen 21 = .ok (.ireturn, 1) := by decide +kernel
theorem d_M_listen_22 : decode b_M_listen 22 = .ok (.aload_n 0, 1) := by decide +kernel
theorem d_M_listen_23 : decode b_M_listen 23 = .ok (.getfield 35, 3) := by decide +kernel
theorem d_M_listen_26 : decode b_M_listen 26 = .ok (.iload_n 1, 1) := by decide +kernel
theorem d_M_listen_27 : decode b_M_listen 27 = .ok (.baload, 1) := by decide +kernel
theorem d_M_listen_28 : decode b_M_listen 28 = .ok (.iload_n 2, 1) := by decide +kernel
theorem d_M_listen_29 : decode b_M_listen 29 = .ok (.if_icmp .ne 7, 3) := by decide +kernel
theorem d_M_listen_32 : decode b_M_listen 32 = .ok (.iconst 0, 1) := by decide +kernel
theorem d_M_listen_33 : decode b_M_listen 33 = .ok (.goto 4, 3) := by decide +kernel
theorem d_M_listen_36 : decode b_M_listen 36 = .ok (.iconst 1, 1) := by decide +kernel
theorem d_M_listen_37 : decode b_M_listen 37 = .ok (.istore_n 3, 1) := by decide +kernel
theorem d_M_listen_38 : decode b_M_listen 38 = .ok (.aload_n 0, 1) := by decide +kernel
theorem d_M_listen_39 : decode b_M_listen 39 = .ok (.getfield 35, 3) := by decide +kernel
theorem d_M_listen_42 : decode b_M_listen 42 = .ok (.iload_n 1, 1) := by decide +kernel
theorem d_M_listen_43 : decode b_M_listen 43 = .ok (.iload_n 2, 1) := by decide +kernel
theorem d_M_listen_44 : decode b_M_listen 44 = .ok (.bastore, 1) := by decide +kernel
theorem d_M_listen_45 : decode b_M_listen 45 = .ok (.aload_n 0, 1) := by decide +kernel
theorem d_M_listen_46 : decode b_M_listen 46 = .ok (.getfield 20, 3) := by decide +kernel
theorem d_M_listen_49 : decode b_M_listen 49 = .ok (.iload_n 1, 1) := by decide +kernel
theorem d_M_listen_50 : decode b_M_listen 50 = .ok (.iconst 0, 1) := by decide +kernel
theorem d_M_listen_51 : decode b_M_listen 51 = .ok (.iastore, 1) := by decide +kernel
theorem d_M_listen_52 : decode b_M_listen 52 = .ok (.iload_n 3, 1) := by decide +kernel
theorem d_M_listen_53 : decode b_M_listen 53 = .ok (.ireturn, 1) := by decide +kernel
theorem d_M_two_0 : decode b_M_two 0 = .ok (.aload_n 0, 1) := by decide +kernel
theorem d_M_two_1 : decode b_M_two 1 = .ok (.iload_n 1, 1) := by decide +kernel
theorem d_M_two_2 : decode b_M_two 2 = .ok (.invokevirtual 75, 3) := by decide +kernel
theorem d_M_two_5 : decode b_M_two 5 = .ok (.ifCond .eq 5, 3) := by decide +kernel
theorem d_M_two_8 : decode b_M_two 8 = .ok (.iconst (-1), 1) := by decide +kernel
theorem d_M_two_9 : decode b_M_two 9 = .ok (.ireturn, 1) := by decide +kernel
theorem d_M_two_10 : decode b_M_two 10 = .ok (.iload_n 2, 1) := by decide +kernel
theorem d_M_two_11 : decode b_M_two 11 = .ok (.iconst 1, 1) := by decide +kernel
theorem d_M_two_12 : decode b_M_two 12 = .ok (.if_icmp .lt 20, 3) := by decide +kernel
theorem d_M_two_15 : decode b_M_two 15 = .ok (.iload_n 2, 1) := by decide +kernel
theorem d_M_two_16 : decode b_M_two 16 = .ok (.bipush 10, 2) := by decide +kernel
theorem d_M_two_18 : decode b_M_two 18 = .ok (.if_icmp .gt 14, 3) := by decide +kernel
theorem d_M_two_21 : decode b_M_two 21 = .ok (.iload_n 3, 1) := by decide +kernel
theorem d_M_two_22 : decode b_M_two 22 = .ok (.iconst 1, 1) := by decide +kernel
theorem d_M_two_23 : decode b_M_two 23 = .ok (.if_icmp .lt 9, 3) := by decide +kernel
theorem d_M_two_26 : decode b_M_two 26 = .ok (.iload_n 3, 1) := by decide +kernel
theorem d_M_two_27 : decode b_M_two 27 = .ok (.bipush 10, 2) := by decide +kernel
theorem d_M_two_29 : decode b_M_two 29 = .ok (.if_icmp .le 6, 3) := by decide +kernel
theorem d_M_two_32 : decode b_M_two 32 = .ok (.bipush (-2), 2) := by decide +kernel
theorem d_M_two_34 : decode b_M_two 34 = .ok (.ireturn, 1) := by decide +kernel
theorem d_M_two_35 : decode b_M_two 35 = .ok (.aload_n 0, 1) := by decide +kernel
theorem d_M_two_36 : decode b_M_two 36 = .ok (.getfield 16, 3) := by decide +kernel
theorem d_M_two_39 : decode b_M_two 39 = .ok (.iload_n 1, 1) := by decide +kernel
theorem d_M_two_40 : decode b_M_two 40 = .ok (.baload, 1) := by decide +kernel
theorem d_M_two_41 : decode b_M_two 41 = .ok (.ifCond .eq 6, 3) := by decide +kernel
theorem d_M_two_44 : decode b_M_two 44 = .ok (.bipush (-3), 2) := by decide +kernel
theorem d_M_two_46 : decode b_M_two 46 = .ok (.ireturn, 1) := by decide +kernel
theorem d_M_two_47 : decode b_M_two 47 = .ok (.aload_n 0, 1) := by decide +kernel
theorem d_M_two_48 : decode b_M_two 48 = .ok (.getfield 26, 3) := by decide +kernel
theorem d_M_two_51 : decode b_M_two 51 = .ok (.iload_n 1, 1) := by decide +kernel
theorem d_M_two_52 : decode b_M_two 52 = .ok (.baload, 1) := by decide +kernel
theorem d_M_two_53 : decode b_M_two 53 = .ok (.ifCond .eq 16, 3) := by decide +kernel
theorem d_M_two_56 : decode b_M_two 56 = .ok (.aload_n 0, 1) := by decide +kernel
theorem d_M_two_57 : decode b_M_two 57 = .ok (.getfield 35, 3) := by decide +kernel
theorem d_M_two_60 : decode b_M_two 60 = .ok (.iload_n 1, 1) := by decide +kernel
theorem d_M_two_61 : decode b_M_two 61 = .ok (.baload, 1) := by decide +kernel
theorem d_M_two_62 : decode b_M_two 62 = .ok (.ifCond .ne 7, 3) := by decide +kernel
theorem d_M_two_65 : decode b_M_two 65 = .ok (.iconst 1, 1) := by decide +kernel
theorem d_M_two_66 : decode b_M_two 66 = .ok (.goto 4, 3) := by decide +kernel
theorem d_M_two_69 : decode b_M_two 69 = .ok (.iconst 0, 1) := by decide +kernel
theorem d_M_two_70 : decode b_M_two 70 = .ok (.istore 4, 2) := by decide +kernel
theorem d_M_two_72 : decode b_M_two 72 = .ok (.aload_n 0, 1) := by decide +kernel
theorem d_M_two_73 : decode b_M_two 73 = .ok (.iload_n 1, 1) := by decide +kernel
theorem d_M_two_74 : decode b_M_two 74 = .ok (.iload_n 2, 1) := by decide +kernel
theorem d_M_two_75 : decode b_M_two 75 = .ok (.iload_n 3, 1) := by decide +kernel
theorem d_M_two_76 : decode b_M_two 76 = .ok (.if_icmp .ge 7, 3) := by decide +kernel
theorem d_M_two_79 : decode b_M_two 79 = .ok (.iload_n 2, 1) := by decide +kernel
theorem d_M_two_80 : decode b_M_two 80 = .ok (.goto 4, 3) := by decide +kernel
theorem d_M_two_83 : decode b_M_two 83 = .ok (.iload_n 3, 1) := by decide +kernel
theorem d_M_two_84 : decode b_M_two 84 = .ok (.iload 4, 2) := by decide +kernel
theorem d_M_two_86 : decode b_M_two 86 = .ok (.invokevirtual 78, 3) := by decide +kernel
theorem d_M_two_89 : decode b_M_two 89 = .ok (.aload_n 0, 1) := by decide +kernel
theorem d_M_two_90 : decode b_M_two 90 = .ok (.getfield 16, 3) := by decide +kernel
theorem d_M_two_93 : decode b_M_two 93 = .ok (.iload_n 1, 1) := by decide +kernel
theorem d_M_two_94 : decode b_M_two 94 = .ok (.baload, 1) := by decide +kernel
theorem d_M_two_95 : decode b_M_two 95 = .ok (.ifCond .ne 34, 3) := by decide +kernel
theorem d_M_two_98 : decode b_M_two 98 = .ok (.iload_n 2, 1) := by decide +kernel
theorem d_M_two_99 : decode b_M_two 99 = .ok (.invokestatic 71, 3) := by decide +kernel
theorem d_M_two_102 : decode b_M_two 102 = .ok (.ifCond .eq 10, 3) := by decide +kernel
theorem d_M_two_105 : decode b_M_two 105 = .ok (.iload_n 3, 1) := by decide +kernel
theorem d_M_two_106 : decode b_M_two 106 = .ok (.invokestatic 71, 3) := by decide +kernel
theorem d_M_two_109 : decode b_M_two 109 = .ok (.ifCond .ne 20, 3) := by decide +kernel
theorem d_M_two_112 : decode b_M_two 112 = .ok (.aload_n 0, 1) := by decide +kernel
theorem d_M_two_113 : decode b_M_two 113 = .ok (.iload_n 1, 1) := by decide +kernel
theorem d_M_two_114 : decode b_M_two 114 = .ok (.iload_n 2, 1) := by decide +kernel
theorem d_M_two_115 : decode b_M_two 115 = .ok (.iload_n 3, 1) := by decide +kernel
theorem d_M_two_116 : decode b_M_two 116 = .ok (.if_icmp .ge 7, 3) := by decide +kernel
theorem d_M_two_119 : decode b_M_two 119 = .ok (.iload_n 3, 1) := by decide +kernel
theorem d_M_two_120 : decode b_M_two 120 = .ok (.goto 4, 3) := by decide +kernel
theorem d_M_two_123 : decode b_M_two 123 = .ok (.iload_n 2, 1) := by decide +kernel
theorem d_M_two_124 : decode b_M_two 124 = .ok (.iload 4, 2) := by decide +kernel
theorem d_M_two_126 : decode b_M_two 126 = .ok (.invokevirtual 78, 3) := by decide +kernel
theorem d_M_two_129 : decode b_M_two 129 = .ok (.aload_n 0, 1) := by decide +kernel
theorem d_M_two_130 : decode b_M_two 130 = .ok (.iload_n 1, 1) := by decide +kernel
theorem d_M_two_131 : decode b_M_two 131 = .ok (.invokevirtual 63, 3) := by decide +kernel
theorem d_M_two_134 : decode b_M_two 134 = .ok (.ireturn, 1) := by decide +kernel
theorem d_M_suspended_0 : decode b_M_suspended 0 = .ok (.aload_n 0, 1) := by decide +kernel
theorem d_M_suspended_1 : decode b_M_suspended 1 = .ok (.iload_n 1, 1) := by decide +kernel
theorem d_M_suspended_2 : decode b_M_suspended 2 = .ok (.invokevirtual 75, 3) := by decide +kernel
theorem d_M_suspended_5 : decode b_M_suspended 5 = .ok (.ifCond .eq 5, 3) := by decide +kernel
theorem d_M_suspended_8 : decode b_M_suspended 8 = .ok (.iconst (-1), 1) := by decide +kernel
theorem d_M_suspended_9 : decode b_M_suspended 9 = .ok (.ireturn, 1) := by decide +kernel
theorem d_M_suspended_10 : decode b_M_suspended 10 = .ok (.aload_n 0, 1) := by decide +kernel
theorem d_M_suspended_11 : decode b_M_suspended 11 = .ok (.getfield 16, 3) := by decide +kernel
theorem d_M_suspended_14 : decode b_M_suspended 14 = .ok (.iload_n 1, 1) := by decide +kernel
theorem d_M_suspended_15 : decode b_M_suspended 15 = .ok (.baload, 1) := by decide +kernel
theorem d_M_suspended_16 : decode b_M_suspended 16 = .ok (.ifCond .eq 8, 3) := by decide +kernel
theorem d_M_suspended_19 : decode b_M_suspended 19 = .ok (.bipush (-3), 2) := by decide +kernel
theorem d_M_suspended_21 : decode b_M_suspended 21 = .ok (.goto 9, 3) := by decide +kernel
theorem d_M_suspended_24 : decode b_M_suspended 24 = .ok (.aload_n 0, 1) := by decide +kernel
theorem d_M_suspended_25 : decode b_M_suspended 25 = .ok (.getfield 23, 3) := by decide +kernel
theorem d_M_suspended_28 : decode b_M_suspended 28 = .ok (.iload_n 1, 1) := by decide +kernel
theorem d_M_suspended_29 : decode b_M_suspended 29 = .ok (.iaload, 1) := by decide +kernel
theorem d_M_suspended_30 : decode b_M_suspended 30 = .ok (.ireturn, 1) := by decide +kernel
