theorem d_PW_end_0 : decode b_PW_end 0 = .ok (.iload_n 1, 1) := by decide +kernel
theorem d_PW_end_1 : decode b_PW_end 1 = .ok (.ifCond .lt 24, 3) := by decide +kernel
theorem d_PW_end_4 : decode b_PW_end 4 = .ok (.iload_n 1, 1) := by decide +kernel
theorem d_PW_end_5 : decode b_PW_end 5 = .ok (.bipush 20, 2) := by decide +kernel
theorem d_PW_end_7 : decode b_PW_end 7 = .ok (.if_icmp .gt 18, 3) := by decide +kernel
theorem d_PW_end_10 : decode b_PW_end 10 = .ok (.aload_n 0, 1) := by decide +kernel
theorem d_PW_end_11 : decode b_PW_end 11 = .ok (.getfield 18, 3) := by decide +kernel
theorem d_PW_end_14 : decode b_PW_end 14 = .ok (.getfield 101, 3) := by decide +kernel
theorem d_PW_end_17 : decode b_PW_end 17 = .ok (.iload_n 1, 1) := by decide +kernel
theorem d_PW_end_18 : decode b_PW_end 18 = .ok (.iadd, 1) := by decide +kernel
theorem d_PW_end_19 : decode b_PW_end 19 = .ok (.sipush 2000, 3) := by decide +kernel
theorem d_PW_end_22 : decode b_PW_end 22 = .ok (.if_icmp .le 5, 3) := by decide +kernel
theorem d_PW_end_25 : decode b_PW_end 25 = .ok (.iconst (-1), 1) := by decide +kernel
theorem d_PW_end_26 : decode b_PW_end 26 = .ok (.ireturn, 1) := by decide +kernel
theorem d_PW_end_27 : decode b_PW_end 27 = .ok (.aload_n 0, 1) := by decide +kernel
theorem d_PW_end_28 : decode b_PW_end 28 = .ok (.getfield 18, 3) := by decide +kernel
theorem d_PW_end_31 : decode b_PW_end 31 = .ok (.aload_n 0, 1) := by decide +kernel
theorem d_PW_end_32 : decode b_PW_end 32 = .ok (.getfield 9, 3) := by decide +kernel
theorem d_PW_end_35 : decode b_PW_end 35 = .ok (.iconst 0, 1) := by decide +kernel
theorem d_PW_end_36 : decode b_PW_end 36 = .ok (.iload_n 1, 1) := by decide +kernel
theorem d_PW_end_37 : decode b_PW_end 37 = .ok (.invokevirtual 105, 3) := by decide +kernel
theorem d_PW_end_40 : decode b_PW_end 40 = .ok (.pop, 1) := by decide +kernel
theorem d_PW_end_41 : decode b_PW_end 41 = .ok (.aload_n 0, 1) := by decide +kernel
theorem d_PW_end_42 : decode b_PW_end 42 = .ok (.getfield 9, 3) := by decide +kernel
theorem d_PW_end_45 : decode b_PW_end 45 = .ok (.iconst 0, 1) := by decide +kernel
theorem d_PW_end_46 : decode b_PW_end 46 = .ok (.invokestatic 91, 3) := by decide +kernel
theorem d_PW_end_49 : decode b_PW_end 49 = .ok (.aload_n 0, 1) := by decide +kernel
theorem d_PW_end_50 : decode b_PW_end 50 = .ok (.getfield 18, 3) := by decide +kernel
theorem d_PW_end_53 : decode b_PW_end 53 = .ok (.getfield 101, 3) := by decide +kernel
theorem d_PW_end_56 : decode b_PW_end 56 = .ok (.ireturn, 1) := by decide +kernel
theorem d_PW_fault_0 : decode b_PW_fault 0 = .ok (.iload_n 1, 1) := by decide +kernel
theorem d_PW_fault_1 : decode b_PW_fault 1 = .ok (.ifCond .ne 14, 3) := by decide +kernel
theorem d_PW_fault_4 : decode b_PW_fault 4 = .ok (.aload_n 0, 1) := by decide +kernel
theorem d_PW_fault_5 : decode b_PW_fault 5 = .ok (.getfield 25, 3) := by decide +kernel
theorem d_PW_fault_8 : decode b_PW_fault 8 = .ok (.getfield 136, 3) := by decide +kernel
theorem d_PW_fault_11 : decode b_PW_fault 11 = .ok (.getfield 140, 3) := by decide +kernel
theorem d_PW_fault_14 : decode b_PW_fault 14 = .ok (.ireturn, 1) := by decide +kernel
theorem d_PW_fault_15 : decode b_PW_fault 15 = .ok (.iload_n 1, 1) := by decide +kernel
theorem d_PW_fault_16 : decode b_PW_fault 16 = .ok (.iconst 1, 1) := by decide +kernel
theorem d_PW_fault_17 : decode b_PW_fault 17 = .ok (.if_icmp .ne 16, 3) := by decide +kernel
theorem d_PW_fault_20 : decode b_PW_fault 20 = .ok (.aload_n 0, 1) := by decide +kernel
theorem d_PW_fault_21 : decode b_PW_fault 21 = .ok (.getfield 25, 3) := by decide +kernel
theorem d_PW_fault_24 : decode b_PW_fault 24 = .ok (.getfield 136, 3) := by decide +kernel
theorem d_PW_fault_27 : decode b_PW_fault 27 = .ok (.getfield 145, 3) := by decide +kernel
theorem d_PW_fault_30 : decode b_PW_fault 30 = .ok (.goto 4, 3) := by decide +kernel
theorem d_PW_fault_33 : decode b_PW_fault 33 = .ok (.iconst (-1), 1) := by decide +kernel
theorem d_PW_fault_34 : decode b_PW_fault 34 = .ok (.ireturn, 1) := by decide +kernel
theorem d_PW_feed_0 : decode b_PW_feed 0 = .ok (.aload_n 0, 1) := by decide +kernel
theorem d_PW_feed_1 : decode b_PW_feed 1 = .ok (.iconst 0, 1) := by decide +kernel
theorem d_PW_feed_2 : decode b_PW_feed 2 = .ok (.iload_n 1, 1) := by decide +kernel
theorem d_PW_feed_3 : decode b_PW_feed 3 = .ok (.invokevirtual 97, 3) := by decide +kernel
theorem d_PW_feed_6 : decode b_PW_feed 6 = .ok (.aload_n 0, 1) := by decide +kernel
theorem d_PW_feed_7 : decode b_PW_feed 7 = .ok (.iconst 4, 1) := by decide +kernel
theorem d_PW_feed_8 : decode b_PW_feed 8 = .ok (.iload_n 2, 1) := by decide +kernel
theorem d_PW_feed_9 : decode b_PW_feed 9 = .ok (.invokevirtual 97, 3) := by decide +kernel
theorem d_PW_feed_12 : decode b_PW_feed 12 = .ok (.aload_n 0, 1) := by decide +kernel
theorem d_PW_feed_13 : decode b_PW_feed 13 = .ok (.bipush 8, 2) := by decide +kernel
theorem d_PW_feed_15 : decode b_PW_feed 15 = .ok (.iload_n 3, 1) := by decide +kernel
theorem d_PW_feed_16 : decode b_PW_feed 16 = .ok (.invokevirtual 97, 3) := by decide +kernel
theorem d_PW_feed_19 : decode b_PW_feed 19 = .ok (.aload_n 0, 1) := by decide +kernel
theorem d_PW_feed_20 : decode b_PW_feed 20 = .ok (.bipush 12, 2) := by decide +kernel
theorem d_PW_feed_22 : decode b_PW_feed 22 = .ok (.iload 4, 2) := by decide +kernel
theorem d_PW_feed_24 : decode b_PW_feed 24 = .ok (.invokevirtual 97, 3) := by decide +kernel
theorem d_PW_feed_27 : decode b_PW_feed 27 = .ok (.aload_n 0, 1) := by decide +kernel
theorem d_PW_feed_28 : decode b_PW_feed 28 = .ok (.bipush 16, 2) := by decide +kernel
theorem d_PW_feed_30 : decode b_PW_feed 30 = .ok (.iload 5, 2) := by decide +kernel
theorem d_PW_feed_32 : decode b_PW_feed 32 = .ok (.invokevirtual 97, 3) := by decide +kernel
theorem d_PW_feed_35 : decode b_PW_feed 35 = .ok (.return_, 1) := by decide +kernel
theorem d_PW_found_0 : decode b_PW_found 0 = .ok (.aload_n 0, 1) := by decide +kernel
theorem d_PW_found_1 : decode b_PW_found 1 = .ok (.getfield 76, 3) := by decide +kernel
theorem d_PW_found_4 : decode b_PW_found 4 = .ok (.iload_n 1, 1) := by decide +kernel
theorem d_PW_found_5 : decode b_PW_found 5 = .ok (.iload_n 2, 1) := by decide +kernel
theorem d_PW_found_6 : decode b_PW_found 6 = .ok (.invokestatic 200, 3) := by decide +kernel
theorem d_PW_found_9 : decode b_PW_found 9 = .ok (.ireturn, 1) := by decide +kernel
theorem d_PW_group_0 : decode b_PW_group 0 = .ok (.iload_n 1, 1) := by decide +kernel
theorem d_PW_group_1 : decode b_PW_group 1 = .ok (.ifCond .lt 18, 3) := by decide +kernel
theorem d_PW_group_4 : decode b_PW_group 4 = .ok (.iload_n 1, 1) := by decide +kernel
theorem d_PW_group_5 : decode b_PW_group 5 = .ok (.bipush 9, 2) := by decide +kernel
theorem d_PW_group_7 : decode b_PW_group 7 = .ok (.if_icmp .gt 12, 3) := by decide +kernel
theorem d_PW_group_10 : decode b_PW_group 10 = .ok (.iload_n 2, 1) := by decide +kernel
theorem d_PW_group_11 : decode b_PW_group 11 = .ok (.ifCond .lt 8, 3) := by decide +kernel
theorem d_PW_group_14 : decode b_PW_group 14 = .ok (.iload_n 2, 1) := by decide +kernel
theorem d_PW_group_15 : decode b_PW_group 15 = .ok (.iconst 1, 1) := by decide +kernel
theorem d_PW_group_16 : decode b_PW_group 16 = .ok (.if_icmp .le 5, 3) := by decide +kernel
theorem d_PW_group_19 : decode b_PW_group 19 = .ok (.iconst (-1), 1) := by decide +kernel
theorem d_PW_group_20 : decode b_PW_group 20 = .ok (.ireturn, 1) := by decide +kernel
theorem d_PW_group_21 : decode b_PW_group 21 = .ok (.aload_n 0, 1) := by decide +kernel
theorem d_PW_group_22 : decode b_PW_group 22 = .ok (.getfield 73, 3) := by decide +kernel
theorem d_PW_group_25 : decode b_PW_group 25 = .ok (.iconst 2, 1) := by decide +kernel
theorem d_PW_group_26 : decode b_PW_group 26 = .ok (.iload_n 1, 1) := by decide +kernel
theorem d_PW_group_27 : decode b_PW_group 27 = .ok (.imul, 1) := by decide +kernel
theorem d_PW_group_28 : decode b_PW_group 28 = .ok (.iload_n 2, 1) := by decide +kernel
theorem d_PW_group_29 : decode b_PW_group 29 = .ok (.iadd, 1) := by decide +kernel
theorem d_PW_group_30 : decode b_PW_group 30 = .ok (.iaload, 1) := by decide +kernel
theorem d_PW_group_31 : decode b_PW_group 31 = .ok (.ireturn, 1) := by decide +kernel
theorem d_PW_makeReady_0 : decode b_PW_makeReady 0 = .ok (.iconst 0, 1) := by decide +kernel
theorem d_PW_makeReady_1 : decode b_PW_makeReady 1 = .ok (.istore_n 3, 1) := by decide +kernel
theorem d_PW_makeReady_2 : decode b_PW_makeReady 2 = .ok (.iload_n 3, 1) := by decide +kernel
theorem d_PW_makeReady_3 : decode b_PW_makeReady 3 = .ok (.iconst 4, 1) := by decide +kernel
theorem d_PW_makeReady_4 : decode b_PW_makeReady 4 = .ok (.if_icmp .ge 30, 3) := by decide +kernel
theorem d_PW_makeReady_7 : decode b_PW_makeReady 7 = .ok (.aload_n 0, 1) := by decide +kernel
theorem d_PW_makeReady_8 : decode b_PW_makeReady 8 = .ok (.getfield 9, 3) := by decide +kernel
theorem d_PW_makeReady_11 : decode b_PW_makeReady 11 = .ok (.iload_n 1, 1) := by decide +kernel
theorem d_PW_makeReady_12 : decode b_PW_makeReady 12 = .ok (.iload_n 3, 1) := by decide +kernel
theorem d_PW_makeReady_13 : decode b_PW_makeReady 13 = .ok (.iadd, 1) := by decide +kernel
theorem d_PW_makeReady_14 : decode b_PW_makeReady 14 = .ok (.iload_n 2, 1) := by decide +kernel
theorem d_PW_makeReady_15 : decode b_PW_makeReady 15 = .ok (.bipush 24, 2) := by decide +kernel
theorem d_PW_makeReady_17 : decode b_PW_makeReady 17 = .ok (.bipush 8, 2) := by decide +kernel
theorem d_PW_makeReady_19 : decode b_PW_makeReady 19 = .ok (.iload_n 3, 1) := by decide +kernel
theorem d_PW_makeReady_20 : decode b_PW_makeReady 20 = .ok (.imul, 1) := by decide +kernel
theorem d_PW_makeReady_21 : decode b_PW_makeReady 21 = .ok (.isub, 1) := by decide +kernel
theorem d_PW_makeReady_22 : decode b_PW_makeReady 22 = .ok (.iushr, 1) := by decide +kernel
theorem d_PW_makeReady_23 : decode b_PW_makeReady 23 = .ok (.sipush 255, 3) := by decide +kernel
theorem d_PW_makeReady_26 : decode b_PW_makeReady 26 = .ok (.iand, 1) := by decide +kernel
theorem d_PW_makeReady_27 : decode b_PW_makeReady 27 = .ok (.iastore, 1) := by decide +kernel
theorem d_PW_makeReady_28 : decode b_PW_makeReady 28 = .ok (.iinc 3 1, 3) := by decide +kernel
theorem d_PW_makeReady_31 : decode b_PW_makeReady 31 = .ok (.goto (-29), 3) := by decide +kernel
theorem d_PW_makeReady_34 : decode b_PW_makeReady 34 = .ok (.return_, 1) := by decide +kernel
theorem d_PW_output_0 : decode b_PW_output 0 = .ok (.aload_n 0, 1) := by decide +kernel
theorem d_PW_output_1 : decode b_PW_output 1 = .ok (.getfield 85, 3) := by decide +kernel
theorem d_PW_output_4 : decode b_PW_output 4 = .ok (.iload_n 1, 1) := by decide +kernel
theorem d_PW_output_5 : decode b_PW_output 5 = .ok (.invokevirtual 228, 3) := by decide +kernel
theorem d_PW_output_8 : decode b_PW_output 8 = .ok (.ireturn, 1) := by decide +kernel
theorem d_PW_over_0 : decode b_PW_over 0 = .ok (.aload_n 0, 1) := by decide +kernel
theorem d_PW_over_1 : decode b_PW_over 1 = .ok (.getfield 240, 3) := by decide +kernel
theorem d_PW_over_4 : decode b_PW_over 4 = .ok (.ireturn, 1) := by decide +kernel
theorem d_PW_pairAt_0 : decode b_PW_pairAt 0 = .ok (.iload_n 1, 1) := by decide +kernel
theorem d_PW_pairAt_1 : decode b_PW_pairAt 1 = .ok (.ifCond .lt 26, 3) := by decide +kernel
theorem d_PW_pairAt_4 : decode b_PW_pairAt 4 = .ok (.iload_n 1, 1) := by decide +kernel
theorem d_PW_pairAt_5 : decode b_PW_pairAt 5 = .ok (.aload_n 0, 1) := by decide +kernel
theorem d_PW_pairAt_6 : decode b_PW_pairAt 6 = .ok (.getfield 101, 3) := by decide +kernel
theorem d_PW_pairAt_9 : decode b_PW_pairAt 9 = .ok (.iconst 2, 1) := by decide +kernel
theorem d_PW_pairAt_10 : decode b_PW_pairAt 10 = .ok (.idiv, 1) := by decide +kernel
theorem d_PW_pairAt_11 : decode b_PW_pairAt 11 = .ok (.if_icmp .ge 16, 3) := by decide +kernel
theorem d_PW_pairAt_14 : decode b_PW_pairAt 14 = .ok (.iload_n 2, 1) := by decide +kernel
theorem d_PW_pairAt_15 : decode b_PW_pairAt 15 = .ok (.ifCond .lt 12, 3) := by decide +kernel
theorem d_PW_pairAt_18 : decode b_PW_pairAt 18 = .ok (.iload_n 2, 1) := by decide +kernel
theorem d_PW_pairAt_19 : decode b_PW_pairAt 19 = .ok (.iconst 1, 1) := by decide +kernel
theorem d_PW_pairAt_20 : decode b_PW_pairAt 20 = .ok (.if_icmp .gt 7, 3) := by decide +kernel
theorem d_PW_pairAt_23 : decode b_PW_pairAt 23 = .ok (.iconst 1, 1) := by decide +kernel
theorem d_PW_pairAt_24 : decode b_PW_pairAt 24 = .ok (.goto 4, 3) := by decide +kernel
theorem d_PW_pairAt_27 : decode b_PW_pairAt 27 = .ok (.iconst 0, 1) := by decide +kernel
theorem d_PW_pairAt_28 : decode b_PW_pairAt 28 = .ok (.istore_n 3, 1) := by decide +kernel
theorem d_PW_pairAt_29 : decode b_PW_pairAt 29 = .ok (.iload_n 3, 1) := by decide +kernel
theorem d_PW_pairAt_30 : decode b_PW_pairAt 30 = .ok (.ifCond .eq 15, 3) := by decide +kernel
theorem d_PW_pairAt_33 : decode b_PW_pairAt 33 = .ok (.aload_n 0, 1) := by decide +kernel
theorem d_PW_pairAt_34 : decode b_PW_pairAt 34 = .ok (.iconst 2, 1) := by decide +kernel
theorem d_PW_pairAt_35 : decode b_PW_pairAt 35 = .ok (.iload_n 1, 1) := by decide +kernel
theorem d_PW_pairAt_36 : decode b_PW_pairAt 36 = .ok (.imul, 1) := by decide +kernel
theorem d_PW_pairAt_37 : decode b_PW_pairAt 37 = .ok (.iload_n 2, 1) := by decide +kernel
theorem d_PW_pairAt_38 : decode b_PW_pairAt 38 = .ok (.iadd, 1) := by decide +kernel
theorem d_PW_pairAt_39 : decode b_PW_pairAt 39 = .ok (.invokevirtual 228, 3) := by decide +kernel
theorem d_PW_pairAt_42 : decode b_PW_pairAt 42 = .ok (.goto 4, 3) := by decide +kernel
theorem d_PW_pairAt_45 : decode b_PW_pairAt 45 = .ok (.iconst (-1), 1) := by decide +kernel
theorem d_PW_pairAt_46 : decode b_PW_pairAt 46 = .ok (.ireturn, 1) := by decide +kernel
theorem d_PW_piece_0 : decode b_PW_piece 0 = .ok (.aload_n 0, 1) := by decide +kernel
theorem d_PW_piece_1 : decode b_PW_piece 1 = .ok (.getfield 79, 3) := by decide +kernel
theorem d_PW_piece_4 : decode b_PW_piece 4 = .ok (.iload_n 1, 1) := by decide +kernel
theorem d_PW_piece_5 : decode b_PW_piece 5 = .ok (.iload_n 2, 1) := by decide +kernel
theorem d_PW_piece_6 : decode b_PW_piece 6 = .ok (.invokestatic 200, 3) := by decide +kernel
theorem d_PW_piece_9 : decode b_PW_piece 9 = .ok (.ireturn, 1) := by decide +kernel
theorem d_PW_programAt_0 : decode b_PW_programAt 0 = .ok (.iload_n 1, 1) := by decide +kernel
theorem d_PW_programAt_1 : decode b_PW_programAt 1 = .ok (.ifCond .lt 18, 3) := by decide +kernel
theorem d_PW_programAt_4 : decode b_PW_programAt 4 = .ok (.iload_n 1, 1) := by decide +kernel
theorem d_PW_programAt_5 : decode b_PW_programAt 5 = .ok (.bipush 6, 2) := by decide +kernel
theorem d_PW_programAt_7 : decode b_PW_programAt 7 = .ok (.if_icmp .ge 12, 3) := by decide +kernel
theorem d_PW_programAt_10 : decode b_PW_programAt 10 = .ok (.aload_n 0, 1) := by decide +kernel
theorem d_PW_programAt_11 : decode b_PW_programAt 11 = .ok (.getfield 31, 3) := by decide +kernel
theorem d_PW_programAt_14 : decode b_PW_programAt 14 = .ok (.iload_n 1, 1) := by decide +kernel
theorem d_PW_programAt_15 : decode b_PW_programAt 15 = .ok (.aaload, 1) := by decide +kernel
theorem d_PW_programAt_16 : decode b_PW_programAt 16 = .ok (.goto 4, 3) := by decide +kernel
theorem d_PW_programAt_19 : decode b_PW_programAt 19 = .ok (.aconst_null, 1) := by decide +kernel
theorem d_PW_programAt_20 : decode b_PW_programAt 20 = .ok (.areturn, 1) := by decide +kernel
theorem d_PW_subject_0 : decode b_PW_subject 0 = .ok (.aload_n 0, 1) := by decide +kernel
theorem d_PW_subject_1 : decode b_PW_subject 1 = .ok (.getfield 38, 3) := by decide +kernel
theorem d_PW_subject_4 : decode b_PW_subject 4 = .ok (.aload_n 0, 1) := by decide +kernel
theorem d_PW_subject_5 : decode b_PW_subject 5 = .ok (.getfield 18, 3) := by decide +kernel
theorem d_PW_subject_8 : decode b_PW_subject 8 = .ok (.invokevirtual 160, 3) := by decide +kernel
theorem d_PW_subject_11 : decode b_PW_subject 11 = .ok (.aload_n 0, 1) := by decide +kernel
theorem d_PW_subject_12 : decode b_PW_subject 12 = .ok (.getfield 18, 3) := by decide +kernel
theorem d_PW_subject_15 : decode b_PW_subject 15 = .ok (.invokevirtual 120, 3) := by decide +kernel
theorem d_PW_subject_18 : decode b_PW_subject 18 = .ok (.aload_n 0, 1) := by decide +kernel
theorem d_PW_subject_19 : decode b_PW_subject 19 = .ok (.getfield 38, 3) := by decide +kernel
theorem d_PW_subject_22 : decode b_PW_subject 22 = .ok (.getfield 164, 3) := by decide +kernel
theorem d_PW_subject_25 : decode b_PW_subject 25 = .ok (.ireturn, 1) := by decide +kernel
