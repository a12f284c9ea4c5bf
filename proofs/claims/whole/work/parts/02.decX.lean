theorem d_X_init_0 : decode b_X_init 0 = .ok (.aload_n 0, 1) := by decide +kernel
theorem d_X_init_1 : decode b_X_init 1 = .ok (.invokespecial 1, 3) := by decide +kernel
theorem d_X_init_4 : decode b_X_init 4 = .ok (.aload_n 0, 1) := by decide +kernel
theorem d_X_init_5 : decode b_X_init 5 = .ok (.bipush 100, 2) := by decide +kernel
theorem d_X_init_7 : decode b_X_init 7 = .ok (.anewarray 9, 3) := by decide +kernel
theorem d_X_init_10 : decode b_X_init 10 = .ok (.putfield 11, 3) := by decide +kernel
theorem d_X_init_13 : decode b_X_init 13 = .ok (.aload_n 0, 1) := by decide +kernel
theorem d_X_init_14 : decode b_X_init 14 = .ok (.iconst 0, 1) := by decide +kernel
theorem d_X_init_15 : decode b_X_init 15 = .ok (.putfield 15, 3) := by decide +kernel
theorem d_X_init_18 : decode b_X_init 18 = .ok (.aload_n 0, 1) := by decide +kernel
theorem d_X_init_19 : decode b_X_init 19 = .ok (.lconst 0, 1) := by decide +kernel
theorem d_X_init_20 : decode b_X_init 20 = .ok (.putfield 19, 3) := by decide +kernel
theorem d_X_init_23 : decode b_X_init 23 = .ok (.return_, 1) := by decide +kernel
theorem d_X_node_0 : decode b_X_node 0 = .ok (.aload_n 0, 1) := by decide +kernel
theorem d_X_node_1 : decode b_X_node 1 = .ok (.getfield 15, 3) := by decide +kernel
theorem d_X_node_4 : decode b_X_node 4 = .ok (.aload_n 0, 1) := by decide +kernel
theorem d_X_node_5 : decode b_X_node 5 = .ok (.getfield 11, 3) := by decide +kernel
theorem d_X_node_8 : decode b_X_node 8 = .ok (.arraylength, 1) := by decide +kernel
theorem d_X_node_9 : decode b_X_node 9 = .ok (.if_icmp .lt 6, 3) := by decide +kernel
theorem d_X_node_12 : decode b_X_node 12 = .ok (.bipush (-4), 2) := by decide +kernel
theorem d_X_node_14 : decode b_X_node 14 = .ok (.ireturn, 1) := by decide +kernel
theorem d_X_node_15 : decode b_X_node 15 = .ok (.aload_n 0, 1) := by decide +kernel
theorem d_X_node_16 : decode b_X_node 16 = .ok (.getfield 11, 3) := by decide +kernel
theorem d_X_node_19 : decode b_X_node 19 = .ok (.aload_n 0, 1) := by decide +kernel
theorem d_X_node_20 : decode b_X_node 20 = .ok (.getfield 15, 3) := by decide +kernel
theorem d_X_node_23 : decode b_X_node 23 = .ok (.new 9, 3) := by decide +kernel
theorem d_X_node_26 : decode b_X_node 26 = .ok (.dup, 1) := by decide +kernel
theorem d_X_node_27 : decode b_X_node 27 = .ok (.invokespecial 23, 3) := by decide +kernel
theorem d_X_node_30 : decode b_X_node 30 = .ok (.aastore, 1) := by decide +kernel
theorem d_X_node_31 : decode b_X_node 31 = .ok (.aload_n 0, 1) := by decide +kernel
theorem d_X_node_32 : decode b_X_node 32 = .ok (.dup, 1) := by decide +kernel
theorem d_X_node_33 : decode b_X_node 33 = .ok (.getfield 15, 3) := by decide +kernel
theorem d_X_node_36 : decode b_X_node 36 = .ok (.iconst 1, 1) := by decide +kernel
theorem d_X_node_37 : decode b_X_node 37 = .ok (.iadd, 1) := by decide +kernel
theorem d_X_node_38 : decode b_X_node 38 = .ok (.putfield 15, 3) := by decide +kernel
theorem d_X_node_41 : decode b_X_node 41 = .ok (.aload_n 0, 1) := by decide +kernel
theorem d_X_node_42 : decode b_X_node 42 = .ok (.getfield 15, 3) := by decide +kernel
theorem d_X_node_45 : decode b_X_node 45 = .ok (.ireturn, 1) := by decide +kernel
theorem d_X_event_0 : decode b_X_event 0 = .ok (.aload_n 0, 1) := by decide +kernel
theorem d_X_event_1 : decode b_X_event 1 = .ok (.iload_n 1, 1) := by decide +kernel
theorem d_X_event_2 : decode b_X_event 2 = .ok (.invokevirtual 24, 3) := by decide +kernel
theorem d_X_event_5 : decode b_X_event 5 = .ok (.astore 4, 2) := by decide +kernel
theorem d_X_event_7 : decode b_X_event 7 = .ok (.aload 4, 2) := by decide +kernel
theorem d_X_event_9 : decode b_X_event 9 = .ok (.ifnonnull 5, 3) := by decide +kernel
theorem d_X_event_12 : decode b_X_event 12 = .ok (.iconst (-1), 1) := by decide +kernel
theorem d_X_event_13 : decode b_X_event 13 = .ok (.ireturn, 1) := by decide +kernel
theorem d_X_event_14 : decode b_X_event 14 = .ok (.iload_n 2, 1) := by decide +kernel
theorem d_X_event_15 : decode b_X_event 15 = .ok (.invokestatic 28, 3) := by decide +kernel
theorem d_X_event_18 : decode b_X_event 18 = .ok (.ifCond .ne 6, 3) := by decide +kernel
theorem d_X_event_21 : decode b_X_event 21 = .ok (.bipush (-2), 2) := by decide +kernel
theorem d_X_event_23 : decode b_X_event 23 = .ok (.ireturn, 1) := by decide +kernel
theorem d_X_event_24 : decode b_X_event 24 = .ok (.aload 4, 2) := by decide +kernel
theorem d_X_event_26 : decode b_X_event 26 = .ok (.getfield 32, 3) := by decide +kernel
theorem d_X_event_29 : decode b_X_event 29 = .ok (.ifCond .ne 15, 3) := by decide +kernel
theorem d_X_event_32 : decode b_X_event 32 = .ok (.aload 4, 2) := by decide +kernel
theorem d_X_event_34 : decode b_X_event 34 = .ok (.getfield 36, 3) := by decide +kernel
theorem d_X_event_37 : decode b_X_event 37 = .ok (.ifCond .eq 10, 3) := by decide +kernel
theorem d_X_event_40 : decode b_X_event 40 = .ok (.iload_n 3, 1) := by decide +kernel
theorem d_X_event_41 : decode b_X_event 41 = .ok (.ifCond .eq 6, 3) := by decide +kernel
theorem d_X_event_44 : decode b_X_event 44 = .ok (.bipush (-3), 2) := by decide +kernel
theorem d_X_event_46 : decode b_X_event 46 = .ok (.ireturn, 1) := by decide +kernel
theorem d_X_event_47 : decode b_X_event 47 = .ok (.aload 4, 2) := by decide +kernel
theorem d_X_event_49 : decode b_X_event 49 = .ok (.iload_n 2, 1) := by decide +kernel
theorem d_X_event_50 : decode b_X_event 50 = .ok (.iload_n 3, 1) := by decide +kernel
theorem d_X_event_51 : decode b_X_event 51 = .ok (.invokevirtual 39, 3) := by decide +kernel
theorem d_X_event_54 : decode b_X_event 54 = .ok (.aload 4, 2) := by decide +kernel
theorem d_X_event_56 : decode b_X_event 56 = .ok (.invokevirtual 43, 3) := by decide +kernel
theorem d_X_event_59 : decode b_X_event 59 = .ok (.ireturn, 1) := by decide +kernel
theorem d_X_counter_0 : decode b_X_counter 0 = .ok (.aload_n 0, 1) := by decide +kernel
theorem d_X_counter_1 : decode b_X_counter 1 = .ok (.iload_n 1, 1) := by decide +kernel
theorem d_X_counter_2 : decode b_X_counter 2 = .ok (.invokevirtual 24, 3) := by decide +kernel
theorem d_X_counter_5 : decode b_X_counter 5 = .ok (.astore_n 3, 1) := by decide +kernel
theorem d_X_counter_6 : decode b_X_counter 6 = .ok (.aload_n 3, 1) := by decide +kernel
theorem d_X_counter_7 : decode b_X_counter 7 = .ok (.ifnonnull 5, 3) := by decide +kernel
theorem d_X_counter_10 : decode b_X_counter 10 = .ok (.iconst (-1), 1) := by decide +kernel
theorem d_X_counter_11 : decode b_X_counter 11 = .ok (.ireturn, 1) := by decide +kernel
theorem d_X_counter_12 : decode b_X_counter 12 = .ok (.iload_n 2, 1) := by decide +kernel
theorem d_X_counter_13 : decode b_X_counter 13 = .ok (.ifCond .eq 10, 3) := by decide +kernel
theorem d_X_counter_16 : decode b_X_counter 16 = .ok (.aload_n 3, 1) := by decide +kernel
theorem d_X_counter_17 : decode b_X_counter 17 = .ok (.getfield 47, 3) := by decide +kernel
theorem d_X_counter_20 : decode b_X_counter 20 = .ok (.goto 7, 3) := by decide +kernel
theorem d_X_counter_23 : decode b_X_counter 23 = .ok (.aload_n 3, 1) := by decide +kernel
theorem d_X_counter_24 : decode b_X_counter 24 = .ok (.getfield 50, 3) := by decide +kernel
theorem d_X_counter_27 : decode b_X_counter 27 = .ok (.ireturn, 1) := by decide +kernel
theorem d_X_state_0 : decode b_X_state 0 = .ok (.aload_n 0, 1) := by decide +kernel
theorem d_X_state_1 : decode b_X_state 1 = .ok (.iload_n 1, 1) := by decide +kernel
theorem d_X_state_2 : decode b_X_state 2 = .ok (.invokevirtual 24, 3) := by decide +kernel
theorem d_X_state_5 : decode b_X_state 5 = .ok (.astore_n 2, 1) := by decide +kernel
theorem d_X_state_6 : decode b_X_state 6 = .ok (.aload_n 2, 1) := by decide +kernel
theorem d_X_state_7 : decode b_X_state 7 = .ok (.ifnonnull 5, 3) := by decide +kernel
theorem d_X_state_10 : decode b_X_state 10 = .ok (.iconst (-1), 1) := by decide +kernel
theorem d_X_state_11 : decode b_X_state 11 = .ok (.ireturn, 1) := by decide +kernel
theorem d_X_state_12 : decode b_X_state 12 = .ok (.aload_n 2, 1) := by decide +kernel
theorem d_X_state_13 : decode b_X_state 13 = .ok (.invokevirtual 43, 3) := by decide +kernel
theorem d_X_state_16 : decode b_X_state 16 = .ok (.ireturn, 1) := by decide +kernel
theorem d_X_recover_0 : decode b_X_recover 0 = .ok (.aload_n 0, 1) := by decide +kernel
theorem d_X_recover_1 : decode b_X_recover 1 = .ok (.iload_n 1, 1) := by decide +kernel
theorem d_X_recover_2 : decode b_X_recover 2 = .ok (.invokevirtual 24, 3) := by decide +kernel
theorem d_X_recover_5 : decode b_X_recover 5 = .ok (.astore_n 3, 1) := by decide +kernel
theorem d_X_recover_6 : decode b_X_recover 6 = .ok (.aload_n 3, 1) := by decide +kernel
theorem d_X_recover_7 : decode b_X_recover 7 = .ok (.ifnonnull 5, 3) := by decide +kernel
theorem d_X_recover_10 : decode b_X_recover 10 = .ok (.iconst (-1), 1) := by decide +kernel
theorem d_X_recover_11 : decode b_X_recover 11 = .ok (.ireturn, 1) := by decide +kernel
theorem d_X_recover_12 : decode b_X_recover 12 = .ok (.iload_n 2, 1) := by decide +kernel
theorem d_X_recover_13 : decode b_X_recover 13 = .ok (.iconst 1, 1) := by decide +kernel
theorem d_X_recover_14 : decode b_X_recover 14 = .ok (.if_icmp .ge 6, 3) := by decide +kernel
theorem d_X_recover_17 : decode b_X_recover 17 = .ok (.bipush (-2), 2) := by decide +kernel
theorem d_X_recover_19 : decode b_X_recover 19 = .ok (.ireturn, 1) := by decide +kernel
theorem d_X_recover_20 : decode b_X_recover 20 = .ok (.aload_n 3, 1) := by decide +kernel
theorem d_X_recover_21 : decode b_X_recover 21 = .ok (.getfield 32, 3) := by decide +kernel
theorem d_X_recover_24 : decode b_X_recover 24 = .ok (.ifCond .eq 10, 3) := by decide +kernel
theorem d_X_recover_27 : decode b_X_recover 27 = .ok (.aload_n 3, 1) := by decide +kernel
theorem d_X_recover_28 : decode b_X_recover 28 = .ok (.getfield 53, 3) := by decide +kernel
theorem d_X_recover_31 : decode b_X_recover 31 = .ok (.ifCond .ne 6, 3) := by decide +kernel
theorem d_X_recover_34 : decode b_X_recover 34 = .ok (.bipush (-3), 2) := by decide +kernel
theorem d_X_recover_36 : decode b_X_recover 36 = .ok (.ireturn, 1) := by decide +kernel
theorem d_X_recover_37 : decode b_X_recover 37 = .ok (.aload_n 3, 1) := by decide +kernel
theorem d_X_recover_38 : decode b_X_recover 38 = .ok (.iload_n 2, 1) := by decide +kernel
theorem d_X_recover_39 : decode b_X_recover 39 = .ok (.invokevirtual 56, 3) := by decide +kernel
theorem d_X_recover_42 : decode b_X_recover 42 = .ok (.aload_n 3, 1) := by decide +kernel
theorem d_X_recover_43 : decode b_X_recover 43 = .ok (.invokevirtual 43, 3) := by decide +kernel
theorem d_X_recover_46 : decode b_X_recover 46 = .ok (.ireturn, 1) := by decide +kernel
theorem d_X_flag_0 : decode b_X_flag 0 = .ok (.aload_n 0, 1) := by decide +kernel
theorem d_X_flag_1 : decode b_X_flag 1 = .ok (.iload_n 1, 1) := by decide +kernel
theorem d_X_flag_2 : decode b_X_flag 2 = .ok (.invokevirtual 24, 3) := by decide +kernel
theorem d_X_flag_5 : decode b_X_flag 5 = .ok (.astore_n 2, 1) := by decide +kernel
theorem d_X_flag_6 : decode b_X_flag 6 = .ok (.aload_n 2, 1) := by decide +kernel
theorem d_X_flag_7 : decode b_X_flag 7 = .ok (.ifnonnull 5, 3) := by decide +kernel
theorem d_X_flag_10 : decode b_X_flag 10 = .ok (.iconst (-1), 1) := by decide +kernel
theorem d_X_flag_11 : decode b_X_flag 11 = .ok (.ireturn, 1) := by decide +kernel
theorem d_X_flag_12 : decode b_X_flag 12 = .ok (.aload_n 2, 1) := by decide +kernel
theorem d_X_flag_13 : decode b_X_flag 13 = .ok (.getfield 60, 3) := by decide +kernel
theorem d_X_flag_16 : decode b_X_flag 16 = .ok (.ireturn, 1) := by decide +kernel
theorem d_X_manager_0 : decode b_X_manager 0 = .ok (.aload_n 0, 1) := by decide +kernel
theorem d_X_manager_1 : decode b_X_manager 1 = .ok (.iload_n 1, 1) := by decide +kernel
theorem d_X_manager_2 : decode b_X_manager 2 = .ok (.invokevirtual 24, 3) := by decide +kernel
theorem d_X_manager_5 : decode b_X_manager 5 = .ok (.astore 4, 2) := by decide +kernel
theorem d_X_manager_7 : decode b_X_manager 7 = .ok (.aload 4, 2) := by decide +kernel
theorem d_X_manager_9 : decode b_X_manager 9 = .ok (.ifnonnull 5, 3) := by decide +kernel
theorem d_X_manager_12 : decode b_X_manager 12 = .ok (.iconst (-1), 1) := by decide +kernel
theorem d_X_manager_13 : decode b_X_manager 13 = .ok (.ireturn, 1) := by decide +kernel
theorem d_X_manager_14 : decode b_X_manager 14 = .ok (.lload_n 2, 1) := by decide +kernel
theorem d_X_manager_15 : decode b_X_manager 15 = .ok (.aload_n 0, 1) := by decide +kernel
theorem d_X_manager_16 : decode b_X_manager 16 = .ok (.getfield 19, 3) := by decide +kernel
theorem d_X_manager_19 : decode b_X_manager 19 = .ok (.lcmp, 1) := by decide +kernel
theorem d_X_manager_20 : decode b_X_manager 20 = .ok (.ifCond .ge 6, 3) := by decide +kernel
theorem d_X_manager_23 : decode b_X_manager 23 = .ok (.bipush (-2), 2) := by decide +kernel
theorem d_X_manager_25 : decode b_X_manager 25 = .ok (.ireturn, 1) := by decide +kernel
theorem d_X_manager_26 : decode b_X_manager 26 = .ok (.aload_n 0, 1) := by decide +kernel
theorem d_X_manager_27 : decode b_X_manager 27 = .ok (.lload_n 2, 1) := by decide +kernel
theorem d_X_manager_28 : decode b_X_manager 28 = .ok (.putfield 19, 3) := by decide +kernel
theorem d_X_manager_31 : decode b_X_manager 31 = .ok (.aload 4, 2) := by decide +kernel
theorem d_X_manager_33 : decode b_X_manager 33 = .ok (.lload_n 2, 1) := by decide +kernel
theorem d_X_manager_34 : decode b_X_manager 34 = .ok (.invokevirtual 63, 3) := by decide +kernel
theorem d_X_manager_37 : decode b_X_manager 37 = .ok (.ifCond .eq 7, 3) := by decide +kernel
theorem d_X_manager_40 : decode b_X_manager 40 = .ok (.iconst 1, 1) := by decide +kernel
theorem d_X_manager_41 : decode b_X_manager 41 = .ok (.goto 4, 3) := by decide +kernel
theorem d_X_manager_44 : decode b_X_manager 44 = .ok (.iconst 0, 1) := by decide +kernel
theorem d_X_manager_45 : decode b_X_manager 45 = .ok (.ireturn, 1) := by decide +kernel
theorem d_X_shot_0 : decode b_X_shot 0 = .ok (.aload_n 0, 1) := by decide +kernel
theorem d_X_shot_1 : decode b_X_shot 1 = .ok (.iload_n 1, 1) := by decide +kernel
theorem d_X_shot_2 : decode b_X_shot 2 = .ok (.invokevirtual 24, 3) := by decide +kernel
theorem d_X_shot_5 : decode b_X_shot 5 = .ok (.astore_n 3, 1) := by decide +kernel
theorem d_X_shot_6 : decode b_X_shot 6 = .ok (.aload_n 3, 1) := by decide +kernel
theorem d_X_shot_7 : decode b_X_shot 7 = .ok (.ifnonnull 5, 3) := by decide +kernel
theorem d_X_shot_10 : decode b_X_shot 10 = .ok (.iconst (-1), 1) := by decide +kernel
theorem d_X_shot_11 : decode b_X_shot 11 = .ok (.ireturn, 1) := by decide +kernel
theorem d_X_shot_12 : decode b_X_shot 12 = .ok (.aload_n 3, 1) := by decide +kernel
theorem d_X_shot_13 : decode b_X_shot 13 = .ok (.iload_n 2, 1) := by decide +kernel
theorem d_X_shot_14 : decode b_X_shot 14 = .ok (.putfield 67, 3) := by decide +kernel
theorem d_X_shot_17 : decode b_X_shot 17 = .ok (.aload_n 3, 1) := by decide +kernel
theorem d_X_shot_18 : decode b_X_shot 18 = .ok (.getfield 70, 3) := by decide +kernel
theorem d_X_shot_21 : decode b_X_shot 21 = .ok (.ireturn, 1) := by decide +kernel
theorem d_X_listen_0 : decode b_X_listen 0 = .ok (.aload_n 0, 1) := by decide +kernel
theorem d_X_listen_1 : decode b_X_listen 1 = .ok (.iload_n 1, 1) := by decide +kernel
theorem d_X_listen_2 : decode b_X_listen 2 = .ok (.invokevirtual 24, 3) := by decide +kernel
theorem d_X_listen_5 : decode b_X_listen 5 = .ok (.astore_n 3, 1) := by decide +kernel
theorem d_X_listen_6 : decode b_X_listen 6 = .ok (.aload_n 3, 1) := by decide +kernel
theorem d_X_listen_7 : decode b_X_listen 7 = .ok (.ifnonnull 5, 3) := by decide +kernel
theorem d_X_listen_10 : decode b_X_listen 10 = .ok (.iconst (-1), 1) := by decide +kernel
theorem d_X_listen_11 : decode b_X_listen 11 = .ok (.ireturn, 1) := by decide +kernel
theorem d_X_listen_12 : decode b_X_listen 12 = .ok (.aload_n 3, 1) := by decide +kernel
theorem d_X_listen_13 : decode b_X_listen 13 = .ok (.getfield 32, 3) := by decide +kernel
theorem d_X_listen_16 : decode b_X_listen 16 = .ok (.ifCond .eq 6, 3) := by decide +kernel
theorem d_X_listen_19 : decode b_X_listen 19 = .ok (.bipush (-3), 2) := by decide +kernel
theorem d_X_listen_21 : decode b_X_listen 21 = .ok (.ireturn, 1) := by decide +kernel
theorem d_X_listen_22 : decode b_X_listen 22 = .ok (.aload_n 3, 1) := by decide +kernel
theorem d_X_listen_23 : decode b_X_listen 23 = .ok (.getfield 36, 3) := by decide +kernel
theorem d_X_listen_26 : decode b_X_listen 26 = .ok (.iload_n 2, 1) := by decide +kernel
theorem d_X_listen_27 : decode b_X_listen 27 = .ok (.if_icmp .eq 7, 3) := by decide +kernel
theorem d_X_listen_30 : decode b_X_listen 30 = .ok (.iconst 1, 1) := by decide +kernel
theorem d_X_listen_31 : decode b_X_listen 31 = .ok (.goto 4, 3) := by decide +kernel
theorem d_X_listen_34 : decode b_X_listen 34 = .ok (.iconst 0, 1) := by decide +kernel
theorem d_X_listen_35 : decode b_X_listen 35 = .ok (.istore 4, 2) := by decide +kernel
theorem d_X_listen_37 : decode b_X_listen 37 = .ok (.aload_n 3, 1) := by decide +kernel
theorem d_X_listen_38 : decode b_X_listen 38 = .ok (.iload_n 2, 1) := by decide +kernel
theorem d_X_listen_39 : decode b_X_listen 39 = .ok (.putfield 36, 3) := by decide +kernel
theorem d_X_listen_42 : decode b_X_listen 42 = .ok (.aload_n 3, 1) := by decide +kernel
theorem d_X_listen_43 : decode b_X_listen 43 = .ok (.iconst 0, 1) := by decide +kernel
theorem d_X_listen_44 : decode b_X_listen 44 = .ok (.putfield 60, 3) := by decide +kernel
theorem d_X_listen_47 : decode b_X_listen 47 = .ok (.iload 4, 2) := by decide +kernel
theorem d_X_listen_49 : decode b_X_listen 49 = .ok (.ifCond .eq 7, 3) := by decide +kernel
theorem d_X_listen_52 : decode b_X_listen 52 = .ok (.iconst 1, 1) := by decide +kernel
theorem d_X_listen_53 : decode b_X_listen 53 = .ok (.goto 4, 3) := by decide +kernel
theorem d_X_listen_56 : decode b_X_listen 56 = .ok (.iconst 0, 1) := by decide +kernel
theorem d_X_listen_57 : decode b_X_listen 57 = .ok (.ireturn, 1) := by decide +kernel
theorem d_X_two_0 : decode b_X_two 0 = .ok (.aload_n 0, 1) := by decide +kernel
theorem d_X_two_1 : decode b_X_two 1 = .ok (.iload_n 1, 1) := by decide +kernel
theorem d_X_two_2 : decode b_X_two 2 = .ok (.invokevirtual 24, 3) := by decide +kernel
theorem d_X_two_5 : decode b_X_two 5 = .ok (.astore 4, 2) := by decide +kernel
theorem d_X_two_7 : decode b_X_two 7 = .ok (.aload 4, 2) := by decide +kernel
theorem d_X_two_9 : decode b_X_two 9 = .ok (.ifnonnull 5, 3) := by decide +kernel
theorem d_X_two_12 : decode b_X_two 12 = .ok (.iconst (-1), 1) := by decide +kernel
theorem d_X_two_13 : decode b_X_two 13 = .ok (.ireturn, 1) := by decide +kernel
theorem d_X_two_14 : decode b_X_two 14 = .ok (.iload_n 2, 1) := by decide +kernel
theorem d_X_two_15 : decode b_X_two 15 = .ok (.invokestatic 28, 3) := by decide +kernel
theorem d_X_two_18 : decode b_X_two 18 = .ok (.ifCond .eq 18, 3) := by decide +kernel
theorem d_X_two_21 : decode b_X_two 21 = .ok (.iload_n 3, 1) := by decide +kernel
theorem d_X_two_22 : decode b_X_two 22 = .ok (.invokestatic 28, 3) := by decide +kernel
theorem d_X_two_25 : decode b_X_two 25 = .ok (.ifCond .eq 11, 3) := by decide +kernel
theorem d_X_two_28 : decode b_X_two 28 = .ok (.iload_n 2, 1) := by decide +kernel
theorem d_X_two_29 : decode b_X_two 29 = .ok (.ifCond .eq 7, 3) := by decide +kernel
theorem d_X_two_32 : decode b_X_two 32 = .ok (.iload_n 3, 1) := by decide +kernel
theorem d_X_two_33 : decode b_X_two 33 = .ok (.ifCond .ne 6, 3) := by decide +kernel
theorem d_X_two_36 : decode b_X_two 36 = .ok (.bipush (-2), 2) := by decide +kernel
theorem d_X_two_38 : decode b_X_two 38 = .ok (.ireturn, 1) := by decide +kernel
theorem d_X_two_39 : decode b_X_two 39 = .ok (.aload 4, 2) := by decide +kernel
theorem d_X_two_41 : decode b_X_two 41 = .ok (.getfield 32, 3) := by decide +kernel
theorem d_X_two_44 : decode b_X_two 44 = .ok (.ifCond .eq 6, 3) := by decide +kernel
theorem d_X_two_47 : decode b_X_two 47 = .ok (.bipush (-3), 2) := by decide +kernel
theorem d_X_two_49 : decode b_X_two 49 = .ok (.ireturn, 1) := by decide +kernel
theorem d_X_two_50 : decode b_X_two 50 = .ok (.aload 4, 2) := by decide +kernel
theorem d_X_two_52 : decode b_X_two 52 = .ok (.iload_n 2, 1) := by decide +kernel
theorem d_X_two_53 : decode b_X_two 53 = .ok (.iload_n 3, 1) := by decide +kernel
theorem d_X_two_54 : decode b_X_two 54 = .ok (.invokestatic 73, 3) := by decide +kernel
theorem d_X_two_57 : decode b_X_two 57 = .ok (.iload_n 2, 1) := by decide +kernel
theorem d_X_two_58 : decode b_X_two 58 = .ok (.iload_n 3, 1) := by decide +kernel
theorem d_X_two_59 : decode b_X_two 59 = .ok (.invokestatic 79, 3) := by decide +kernel
theorem d_X_two_62 : decode b_X_two 62 = .ok (.invokevirtual 82, 3) := by decide +kernel
theorem d_X_two_65 : decode b_X_two 65 = .ok (.aload 4, 2) := by decide +kernel
theorem d_X_two_67 : decode b_X_two 67 = .ok (.invokevirtual 43, 3) := by decide +kernel
theorem d_X_two_70 : decode b_X_two 70 = .ok (.ireturn, 1) := by decide +kernel
theorem d_X_suspended_0 : decode b_X_suspended 0 = .ok (.aload_n 0, 1) := by decide +kernel
theorem d_X_suspended_1 : decode b_X_suspended 1 = .ok (.iload_n 1, 1) := by decide +kernel
theorem d_X_suspended_2 : decode b_X_suspended 2 = .ok (.invokevirtual 24, 3) := by decide +kernel
theorem d_X_suspended_5 : decode b_X_suspended 5 = .ok (.astore_n 2, 1) := by decide +kernel
theorem d_X_suspended_6 : decode b_X_suspended 6 = .ok (.aload_n 2, 1) := by decide +kernel
theorem d_X_suspended_7 : decode b_X_suspended 7 = .ok (.ifnonnull 5, 3) := by decide +kernel
theorem d_X_suspended_10 : decode b_X_suspended 10 = .ok (.iconst (-1), 1) := by decide +kernel
theorem d_X_suspended_11 : decode b_X_suspended 11 = .ok (.ireturn, 1) := by decide +kernel
theorem d_X_suspended_12 : decode b_X_suspended 12 = .ok (.aload_n 2, 1) := by decide +kernel
theorem d_X_suspended_13 : decode b_X_suspended 13 = .ok (.getfield 32, 3) := by decide +kernel
theorem d_X_suspended_16 : decode b_X_suspended 16 = .ok (.ifCond .eq 6, 3) := by decide +kernel
theorem d_X_suspended_19 : decode b_X_suspended 19 = .ok (.bipush (-3), 2) := by decide +kernel
theorem d_X_suspended_21 : decode b_X_suspended 21 = .ok (.ireturn, 1) := by decide +kernel
theorem d_X_suspended_22 : decode b_X_suspended 22 = .ok (.aload_n 2, 1) := by decide +kernel
theorem d_X_suspended_23 : decode b_X_suspended 23 = .ok (.getfield 86, 3) := by decide +kernel
theorem d_X_suspended_26 : decode b_X_suspended 26 = .ok (.ireturn, 1) := by decide +kernel
theorem d_X_find_0 : decode b_X_find 0 = .ok (.iload_n 1, 1) := by decide +kernel
theorem d_X_find_1 : decode b_X_find 1 = .ok (.iconst 1, 1) := by decide +kernel
theorem d_X_find_2 : decode b_X_find 2 = .ok (.if_icmp .lt 20, 3) := by decide +kernel
theorem d_X_find_5 : decode b_X_find 5 = .ok (.iload_n 1, 1) := by decide +kernel
theorem d_X_find_6 : decode b_X_find 6 = .ok (.aload_n 0, 1) := by decide +kernel
theorem d_X_find_7 : decode b_X_find 7 = .ok (.getfield 15, 3) := by decide +kernel
theorem d_X_find_10 : decode b_X_find 10 = .ok (.if_icmp .gt 12, 3) := by decide +kernel
theorem d_X_find_13 : decode b_X_find 13 = .ok (.iload_n 1, 1) := by decide +kernel
theorem d_X_find_14 : decode b_X_find 14 = .ok (.aload_n 0, 1) := by decide +kernel
theorem d_X_find_15 : decode b_X_find 15 = .ok (.getfield 11, 3) := by decide +kernel
theorem d_X_find_18 : decode b_X_find 18 = .ok (.arraylength, 1) := by decide +kernel
theorem d_X_find_19 : decode b_X_find 19 = .ok (.if_icmp .le 5, 3) := by decide +kernel
theorem d_X_find_22 : decode b_X_find 22 = .ok (.aconst_null, 1) := by decide +kernel
theorem d_X_find_23 : decode b_X_find 23 = .ok (.areturn, 1) := by decide +kernel
theorem d_X_find_24 : decode b_X_find 24 = .ok (.aload_n 0, 1) := by decide +kernel
theorem d_X_find_25 : decode b_X_find 25 = .ok (.getfield 11, 3) := by decide +kernel
theorem d_X_find_28 : decode b_X_find 28 = .ok (.iload_n 1, 1) := by decide +kernel
theorem d_X_find_29 : decode b_X_find 29 = .ok (.iconst 1, 1) := by decide +kernel
theorem d_X_find_30 : decode b_X_find 30 = .ok (.isub, 1) := by decide +kernel
theorem d_X_find_31 : decode b_X_find 31 = .ok (.aaload, 1) := by decide +kernel
theorem d_X_find_32 : decode b_X_find 32 = .ok (.areturn, 1) := by decide +kernel
theorem d_X_isKind_0 : decode b_X_isKind 0 = .ok (.iload_n 0, 1) := by decide +kernel
theorem d_X_isKind_1 : decode b_X_isKind 1 = .ok (.ifCond .lt 13, 3) := by decide +kernel
theorem d_X_isKind_4 : decode b_X_isKind 4 = .ok (.iload_n 0, 1) := by decide +kernel
theorem d_X_isKind_5 : decode b_X_isKind 5 = .ok (.bipush 10, 2) := by decide +kernel
theorem d_X_isKind_7 : decode b_X_isKind 7 = .ok (.if_icmp .gt 7, 3) := by decide +kernel
theorem d_X_isKind_10 : decode b_X_isKind 10 = .ok (.iconst 1, 1) := by decide +kernel
theorem d_X_isKind_11 : decode b_X_isKind 11 = .ok (.goto 4, 3) := by decide +kernel
theorem d_X_isKind_14 : decode b_X_isKind 14 = .ok (.iconst 0, 1) := by decide +kernel
theorem d_X_isKind_15 : decode b_X_isKind 15 = .ok (.ireturn, 1) := by decide +kernel
theorem d_X_isError_0 : decode b_X_isError 0 = .ok (.iload_n 0, 1) := by decide +kernel
theorem d_X_isError_1 : decode b_X_isError 1 = .ok (.invokestatic 28, 3) := by decide +kernel
theorem d_X_isError_4 : decode b_X_isError 4 = .ok (.ifCond .eq 18, 3) := by decide +kernel
theorem d_X_isError_7 : decode b_X_isError 7 = .ok (.iload_n 0, 1) := by decide +kernel
theorem d_X_isError_8 : decode b_X_isError 8 = .ok (.ifCond .eq 14, 3) := by decide +kernel
theorem d_X_isError_11 : decode b_X_isError 11 = .ok (.iload_n 0, 1) := by decide +kernel
theorem d_X_isError_12 : decode b_X_isError 12 = .ok (.invokestatic 89, 3) := by decide +kernel
theorem d_X_isError_15 : decode b_X_isError 15 = .ok (.ifCond .ne 7, 3) := by decide +kernel
theorem d_X_isError_18 : decode b_X_isError 18 = .ok (.iconst 1, 1) := by decide +kernel
theorem d_X_isError_19 : decode b_X_isError 19 = .ok (.goto 4, 3) := by decide +kernel
theorem d_X_isError_22 : decode b_X_isError 22 = .ok (.iconst 0, 1) := by decide +kernel
theorem d_X_isError_23 : decode b_X_isError 23 = .ok (.ireturn, 1) := by decide +kernel
theorem d_X_isAboutFlag_0 : decode b_X_isAboutFlag 0 = .ok (.iload_n 0, 1) := by decide +kernel
theorem d_X_isAboutFlag_1 : decode b_X_isAboutFlag 1 = .ok (.bipush 6, 2) := by decide +kernel
theorem d_X_isAboutFlag_3 : decode b_X_isAboutFlag 3 = .ok (.if_icmp .eq 15, 3) := by decide +kernel
theorem d_X_isAboutFlag_6 : decode b_X_isAboutFlag 6 = .ok (.iload_n 0, 1) := by decide +kernel
theorem d_X_isAboutFlag_7 : decode b_X_isAboutFlag 7 = .ok (.bipush 7, 2) := by decide +kernel
theorem d_X_isAboutFlag_9 : decode b_X_isAboutFlag 9 = .ok (.if_icmp .eq 9, 3) := by decide +kernel
theorem d_X_isAboutFlag_12 : decode b_X_isAboutFlag 12 = .ok (.iload_n 0, 1) := by decide +kernel
theorem d_X_isAboutFlag_13 : decode b_X_isAboutFlag 13 = .ok (.bipush 8, 2) := by decide +kernel
theorem d_X_isAboutFlag_15 : decode b_X_isAboutFlag 15 = .ok (.if_icmp .ne 7, 3) := by decide +kernel
theorem d_X_isAboutFlag_18 : decode b_X_isAboutFlag 18 = .ok (.iconst 1, 1) := by decide +kernel
theorem d_X_isAboutFlag_19 : decode b_X_isAboutFlag 19 = .ok (.goto 4, 3) := by decide +kernel
theorem d_X_isAboutFlag_22 : decode b_X_isAboutFlag 22 = .ok (.iconst 0, 1) := by decide +kernel
theorem d_X_isAboutFlag_23 : decode b_X_isAboutFlag 23 = .ok (.ireturn, 1) := by decide +kernel
