theorem d_MO_over_0 : decode b_MO_over 0 = .ok (.aload_n 0, 1) := by decide +kernel
theorem d_MO_over_1 : decode b_MO_over 1 = .ok (.iconst 0, 1) := by decide +kernel
theorem d_MO_over_2 : decode b_MO_over 2 = .ok (.putfield 220, 3) := by decide +kernel
theorem d_MO_over_5 : decode b_MO_over 5 = .ok (.iconst 0, 1) := by decide +kernel
theorem d_MO_over_6 : decode b_MO_over 6 = .ok (.ireturn, 1) := by decide +kernel
theorem d_MO_output_0 : decode b_MO_output 0 = .ok (.aload_n 0, 1) := by decide +kernel
theorem d_MO_output_1 : decode b_MO_output 1 = .ok (.iconst 0, 1) := by decide +kernel
theorem d_MO_output_2 : decode b_MO_output 2 = .ok (.putfield 220, 3) := by decide +kernel
theorem d_MO_output_5 : decode b_MO_output 5 = .ok (.iload_n 1, 1) := by decide +kernel
theorem d_MO_output_6 : decode b_MO_output 6 = .ok (.ifCond .lt 11, 3) := by decide +kernel
theorem d_MO_output_9 : decode b_MO_output 9 = .ok (.iload_n 1, 1) := by decide +kernel
theorem d_MO_output_10 : decode b_MO_output 10 = .ok (.aload_n 0, 1) := by decide +kernel
theorem d_MO_output_11 : decode b_MO_output 11 = .ok (.getfield 618, 3) := by decide +kernel
theorem d_MO_output_14 : decode b_MO_output 14 = .ok (.if_icmp .lt 7, 3) := by decide +kernel
theorem d_MO_output_17 : decode b_MO_output 17 = .ok (.iconst (-1), 1) := by decide +kernel
theorem d_MO_output_18 : decode b_MO_output 18 = .ok (.goto 9, 3) := by decide +kernel
theorem d_MO_output_21 : decode b_MO_output 21 = .ok (.aload_n 0, 1) := by decide +kernel
theorem d_MO_output_22 : decode b_MO_output 22 = .ok (.getfield 25, 3) := by decide +kernel
theorem d_MO_output_25 : decode b_MO_output 25 = .ok (.iload_n 1, 1) := by decide +kernel
theorem d_MO_output_26 : decode b_MO_output 26 = .ok (.iaload, 1) := by decide +kernel
theorem d_MO_output_27 : decode b_MO_output 27 = .ok (.ireturn, 1) := by decide +kernel
theorem d_MO_found_0 : decode b_MO_found 0 = .ok (.aload_n 0, 1) := by decide +kernel
theorem d_MO_found_1 : decode b_MO_found 1 = .ok (.iconst 0, 1) := by decide +kernel
theorem d_MO_found_2 : decode b_MO_found 2 = .ok (.putfield 220, 3) := by decide +kernel
theorem d_MO_found_5 : decode b_MO_found 5 = .ok (.iload_n 1, 1) := by decide +kernel
theorem d_MO_found_6 : decode b_MO_found 6 = .ok (.ifCond .lt 20, 3) := by decide +kernel
theorem d_MO_found_9 : decode b_MO_found 9 = .ok (.iload_n 1, 1) := by decide +kernel
theorem d_MO_found_10 : decode b_MO_found 10 = .ok (.aload_n 0, 1) := by decide +kernel
theorem d_MO_found_11 : decode b_MO_found 11 = .ok (.getfield 579, 3) := by decide +kernel
theorem d_MO_found_14 : decode b_MO_found 14 = .ok (.if_icmp .ge 12, 3) := by decide +kernel
theorem d_MO_found_17 : decode b_MO_found 17 = .ok (.iload_n 2, 1) := by decide +kernel
theorem d_MO_found_18 : decode b_MO_found 18 = .ok (.ifCond .lt 8, 3) := by decide +kernel
theorem d_MO_found_21 : decode b_MO_found 21 = .ok (.iload_n 2, 1) := by decide +kernel
theorem d_MO_found_22 : decode b_MO_found 22 = .ok (.iconst 1, 1) := by decide +kernel
theorem d_MO_found_23 : decode b_MO_found 23 = .ok (.if_icmp .le 7, 3) := by decide +kernel
theorem d_MO_found_26 : decode b_MO_found 26 = .ok (.iconst (-1), 1) := by decide +kernel
theorem d_MO_found_27 : decode b_MO_found 27 = .ok (.goto 13, 3) := by decide +kernel
theorem d_MO_found_30 : decode b_MO_found 30 = .ok (.aload_n 0, 1) := by decide +kernel
theorem d_MO_found_31 : decode b_MO_found 31 = .ok (.getfield 211, 3) := by decide +kernel
theorem d_MO_found_34 : decode b_MO_found 34 = .ok (.iconst 2, 1) := by decide +kernel
theorem d_MO_found_35 : decode b_MO_found 35 = .ok (.iload_n 1, 1) := by decide +kernel
theorem d_MO_found_36 : decode b_MO_found 36 = .ok (.imul, 1) := by decide +kernel
theorem d_MO_found_37 : decode b_MO_found 37 = .ok (.iload_n 2, 1) := by decide +kernel
theorem d_MO_found_38 : decode b_MO_found 38 = .ok (.iadd, 1) := by decide +kernel
theorem d_MO_found_39 : decode b_MO_found 39 = .ok (.iaload, 1) := by decide +kernel
theorem d_MO_found_40 : decode b_MO_found 40 = .ok (.ireturn, 1) := by decide +kernel
theorem d_MO_piece_0 : decode b_MO_piece 0 = .ok (.aload_n 0, 1) := by decide +kernel
theorem d_MO_piece_1 : decode b_MO_piece 1 = .ok (.iconst 0, 1) := by decide +kernel
theorem d_MO_piece_2 : decode b_MO_piece 2 = .ok (.putfield 220, 3) := by decide +kernel
theorem d_MO_piece_5 : decode b_MO_piece 5 = .ok (.iload_n 1, 1) := by decide +kernel
theorem d_MO_piece_6 : decode b_MO_piece 6 = .ok (.ifCond .lt 20, 3) := by decide +kernel
theorem d_MO_piece_9 : decode b_MO_piece 9 = .ok (.iload_n 1, 1) := by decide +kernel
theorem d_MO_piece_10 : decode b_MO_piece 10 = .ok (.aload_n 0, 1) := by decide +kernel
theorem d_MO_piece_11 : decode b_MO_piece 11 = .ok (.getfield 588, 3) := by decide +kernel
theorem d_MO_piece_14 : decode b_MO_piece 14 = .ok (.if_icmp .ge 12, 3) := by decide +kernel
theorem d_MO_piece_17 : decode b_MO_piece 17 = .ok (.iload_n 2, 1) := by decide +kernel
theorem d_MO_piece_18 : decode b_MO_piece 18 = .ok (.ifCond .lt 8, 3) := by decide +kernel
theorem d_MO_piece_21 : decode b_MO_piece 21 = .ok (.iload_n 2, 1) := by decide +kernel
theorem d_MO_piece_22 : decode b_MO_piece 22 = .ok (.iconst 1, 1) := by decide +kernel
theorem d_MO_piece_23 : decode b_MO_piece 23 = .ok (.if_icmp .le 7, 3) := by decide +kernel
theorem d_MO_piece_26 : decode b_MO_piece 26 = .ok (.iconst (-1), 1) := by decide +kernel
theorem d_MO_piece_27 : decode b_MO_piece 27 = .ok (.goto 13, 3) := by decide +kernel
theorem d_MO_piece_30 : decode b_MO_piece 30 = .ok (.aload_n 0, 1) := by decide +kernel
theorem d_MO_piece_31 : decode b_MO_piece 31 = .ok (.getfield 214, 3) := by decide +kernel
theorem d_MO_piece_34 : decode b_MO_piece 34 = .ok (.iconst 2, 1) := by decide +kernel
theorem d_MO_piece_35 : decode b_MO_piece 35 = .ok (.iload_n 1, 1) := by decide +kernel
theorem d_MO_piece_36 : decode b_MO_piece 36 = .ok (.imul, 1) := by decide +kernel
theorem d_MO_piece_37 : decode b_MO_piece 37 = .ok (.iload_n 2, 1) := by decide +kernel
theorem d_MO_piece_38 : decode b_MO_piece 38 = .ok (.iadd, 1) := by decide +kernel
theorem d_MO_piece_39 : decode b_MO_piece 39 = .ok (.iaload, 1) := by decide +kernel
theorem d_MO_piece_40 : decode b_MO_piece 40 = .ok (.ireturn, 1) := by decide +kernel
theorem d_MO_group_0 : decode b_MO_group 0 = .ok (.aload_n 0, 1) := by decide +kernel
theorem d_MO_group_1 : decode b_MO_group 1 = .ok (.iconst 0, 1) := by decide +kernel
theorem d_MO_group_2 : decode b_MO_group 2 = .ok (.putfield 220, 3) := by decide +kernel
theorem d_MO_group_5 : decode b_MO_group 5 = .ok (.aload_n 0, 1) := by decide +kernel
theorem d_MO_group_6 : decode b_MO_group 6 = .ok (.getfield 563, 3) := by decide +kernel
theorem d_MO_group_9 : decode b_MO_group 9 = .ok (.ifCond .eq 24, 3) := by decide +kernel
theorem d_MO_group_12 : decode b_MO_group 12 = .ok (.iload_n 1, 1) := by decide +kernel
theorem d_MO_group_13 : decode b_MO_group 13 = .ok (.ifCond .lt 20, 3) := by decide +kernel
theorem d_MO_group_16 : decode b_MO_group 16 = .ok (.iload_n 1, 1) := by decide +kernel
theorem d_MO_group_17 : decode b_MO_group 17 = .ok (.aload_n 0, 1) := by decide +kernel
theorem d_MO_group_18 : decode b_MO_group 18 = .ok (.getfield 570, 3) := by decide +kernel
theorem d_MO_group_21 : decode b_MO_group 21 = .ok (.if_icmp .gt 12, 3) := by decide +kernel
theorem d_MO_group_24 : decode b_MO_group 24 = .ok (.iload_n 2, 1) := by decide +kernel
theorem d_MO_group_25 : decode b_MO_group 25 = .ok (.ifCond .lt 8, 3) := by decide +kernel
theorem d_MO_group_28 : decode b_MO_group 28 = .ok (.iload_n 2, 1) := by decide +kernel
theorem d_MO_group_29 : decode b_MO_group 29 = .ok (.iconst 1, 1) := by decide +kernel
theorem d_MO_group_30 : decode b_MO_group 30 = .ok (.if_icmp .le 7, 3) := by decide +kernel
theorem d_MO_group_33 : decode b_MO_group 33 = .ok (.iconst (-1), 1) := by decide +kernel
theorem d_MO_group_34 : decode b_MO_group 34 = .ok (.goto 13, 3) := by decide +kernel
theorem d_MO_group_37 : decode b_MO_group 37 = .ok (.aload_n 0, 1) := by decide +kernel
theorem d_MO_group_38 : decode b_MO_group 38 = .ok (.getfield 193, 3) := by decide +kernel
theorem d_MO_group_41 : decode b_MO_group 41 = .ok (.iconst 2, 1) := by decide +kernel
theorem d_MO_group_42 : decode b_MO_group 42 = .ok (.iload_n 1, 1) := by decide +kernel
theorem d_MO_group_43 : decode b_MO_group 43 = .ok (.imul, 1) := by decide +kernel
theorem d_MO_group_44 : decode b_MO_group 44 = .ok (.iload_n 2, 1) := by decide +kernel
theorem d_MO_group_45 : decode b_MO_group 45 = .ok (.iadd, 1) := by decide +kernel
theorem d_MO_group_46 : decode b_MO_group 46 = .ok (.iaload, 1) := by decide +kernel
theorem d_MO_group_47 : decode b_MO_group 47 = .ok (.ireturn, 1) := by decide +kernel
theorem d_MO_isThere_0 : decode b_MO_isThere 0 = .ok (.iload_n 1, 1) := by decide +kernel
theorem d_MO_isThere_1 : decode b_MO_isThere 1 = .ok (.ifCond .lt 22, 3) := by decide +kernel
theorem d_MO_isThere_4 : decode b_MO_isThere 4 = .ok (.iload_n 1, 1) := by decide +kernel
theorem d_MO_isThere_5 : decode b_MO_isThere 5 = .ok (.bipush 6, 2) := by decide +kernel
theorem d_MO_isThere_7 : decode b_MO_isThere 7 = .ok (.if_icmp .ge 16, 3) := by decide +kernel
theorem d_MO_isThere_10 : decode b_MO_isThere 10 = .ok (.aload_n 0, 1) := by decide +kernel
theorem d_MO_isThere_11 : decode b_MO_isThere 11 = .ok (.getfield 109, 3) := by decide +kernel
theorem d_MO_isThere_14 : decode b_MO_isThere 14 = .ok (.iload_n 1, 1) := by decide +kernel
theorem d_MO_isThere_15 : decode b_MO_isThere 15 = .ok (.baload, 1) := by decide +kernel
theorem d_MO_isThere_16 : decode b_MO_isThere 16 = .ok (.ifCond .eq 7, 3) := by decide +kernel
theorem d_MO_isThere_19 : decode b_MO_isThere 19 = .ok (.iconst 1, 1) := by decide +kernel
theorem d_MO_isThere_20 : decode b_MO_isThere 20 = .ok (.goto 4, 3) := by decide +kernel
theorem d_MO_isThere_23 : decode b_MO_isThere 23 = .ok (.iconst 0, 1) := by decide +kernel
theorem d_MO_isThere_24 : decode b_MO_isThere 24 = .ok (.ireturn, 1) := by decide +kernel
theorem d_MO_fault_0 : decode b_MO_fault 0 = .ok (.aload_n 0, 1) := by decide +kernel
theorem d_MO_fault_1 : decode b_MO_fault 1 = .ok (.iconst 0, 1) := by decide +kernel
theorem d_MO_fault_2 : decode b_MO_fault 2 = .ok (.putfield 220, 3) := by decide +kernel
theorem d_MO_fault_5 : decode b_MO_fault 5 = .ok (.iload_n 1, 1) := by decide +kernel
theorem d_MO_fault_6 : decode b_MO_fault 6 = .ok (.ifCond .ne 10, 3) := by decide +kernel
theorem d_MO_fault_9 : decode b_MO_fault 9 = .ok (.aload_n 0, 1) := by decide +kernel
theorem d_MO_fault_10 : decode b_MO_fault 10 = .ok (.getfield 273, 3) := by decide +kernel
theorem d_MO_fault_13 : decode b_MO_fault 13 = .ok (.goto 16, 3) := by decide +kernel
theorem d_MO_fault_16 : decode b_MO_fault 16 = .ok (.iload_n 1, 1) := by decide +kernel
theorem d_MO_fault_17 : decode b_MO_fault 17 = .ok (.iconst 1, 1) := by decide +kernel
theorem d_MO_fault_18 : decode b_MO_fault 18 = .ok (.if_icmp .ne 10, 3) := by decide +kernel
theorem d_MO_fault_21 : decode b_MO_fault 21 = .ok (.aload_n 0, 1) := by decide +kernel
theorem d_MO_fault_22 : decode b_MO_fault 22 = .ok (.getfield 75, 3) := by decide +kernel
theorem d_MO_fault_25 : decode b_MO_fault 25 = .ok (.goto 4, 3) := by decide +kernel
theorem d_MO_fault_28 : decode b_MO_fault 28 = .ok (.iconst (-1), 1) := by decide +kernel
theorem d_MO_fault_29 : decode b_MO_fault 29 = .ok (.ireturn, 1) := by decide +kernel
theorem d_MO_about_0 : decode b_MO_about 0 = .ok (.aload_n 0, 1) := by decide +kernel
theorem d_MO_about_1 : decode b_MO_about 1 = .ok (.iconst 0, 1) := by decide +kernel
theorem d_MO_about_2 : decode b_MO_about 2 = .ok (.putfield 220, 3) := by decide +kernel
theorem d_MO_about_5 : decode b_MO_about 5 = .ok (.aload_n 0, 1) := by decide +kernel
theorem d_MO_about_6 : decode b_MO_about 6 = .ok (.iload_n 1, 1) := by decide +kernel
theorem d_MO_about_7 : decode b_MO_about 7 = .ok (.invokevirtual 507, 3) := by decide +kernel
theorem d_MO_about_10 : decode b_MO_about 10 = .ok (.ifCond .ne 7, 3) := by decide +kernel
theorem d_MO_about_13 : decode b_MO_about 13 = .ok (.iconst (-1), 1) := by decide +kernel
theorem d_MO_about_14 : decode b_MO_about 14 = .ok (.goto 45, 3) := by decide +kernel
theorem d_MO_about_17 : decode b_MO_about 17 = .ok (.iload_n 2, 1) := by decide +kernel
theorem d_MO_about_18 : decode b_MO_about 18 = .ok (.ifCond .ne 12, 3) := by decide +kernel
theorem d_MO_about_21 : decode b_MO_about 21 = .ok (.aload_n 0, 1) := by decide +kernel
theorem d_MO_about_22 : decode b_MO_about 22 = .ok (.getfield 115, 3) := by decide +kernel
theorem d_MO_about_25 : decode b_MO_about 25 = .ok (.iload_n 1, 1) := by decide +kernel
theorem d_MO_about_26 : decode b_MO_about 26 = .ok (.iaload, 1) := by decide +kernel
theorem d_MO_about_27 : decode b_MO_about 27 = .ok (.goto 32, 3) := by decide +kernel
theorem d_MO_about_30 : decode b_MO_about 30 = .ok (.iload_n 2, 1) := by decide +kernel
theorem d_MO_about_31 : decode b_MO_about 31 = .ok (.iconst 1, 1) := by decide +kernel
theorem d_MO_about_32 : decode b_MO_about 32 = .ok (.if_icmp .ne 12, 3) := by decide +kernel
theorem d_MO_about_35 : decode b_MO_about 35 = .ok (.aload_n 0, 1) := by decide +kernel
theorem d_MO_about_36 : decode b_MO_about 36 = .ok (.getfield 118, 3) := by decide +kernel
theorem d_MO_about_39 : decode b_MO_about 39 = .ok (.iload_n 1, 1) := by decide +kernel
theorem d_MO_about_40 : decode b_MO_about 40 = .ok (.iaload, 1) := by decide +kernel
theorem d_MO_about_41 : decode b_MO_about 41 = .ok (.goto 18, 3) := by decide +kernel
theorem d_MO_about_44 : decode b_MO_about 44 = .ok (.iload_n 2, 1) := by decide +kernel
theorem d_MO_about_45 : decode b_MO_about 45 = .ok (.iconst 2, 1) := by decide +kernel
theorem d_MO_about_46 : decode b_MO_about 46 = .ok (.if_icmp .ne 12, 3) := by decide +kernel
theorem d_MO_about_49 : decode b_MO_about 49 = .ok (.aload_n 0, 1) := by decide +kernel
theorem d_MO_about_50 : decode b_MO_about 50 = .ok (.getfield 121, 3) := by decide +kernel
theorem d_MO_about_53 : decode b_MO_about 53 = .ok (.iload_n 1, 1) := by decide +kernel
theorem d_MO_about_54 : decode b_MO_about 54 = .ok (.iaload, 1) := by decide +kernel
theorem d_MO_about_55 : decode b_MO_about 55 = .ok (.goto 4, 3) := by decide +kernel
theorem d_MO_about_58 : decode b_MO_about 58 = .ok (.iconst (-1), 1) := by decide +kernel
theorem d_MO_about_59 : decode b_MO_about 59 = .ok (.ireturn, 1) := by decide +kernel
theorem d_MO_name_0 : decode b_MO_name 0 = .ok (.aload_n 0, 1) := by decide +kernel
theorem d_MO_name_1 : decode b_MO_name 1 = .ok (.iconst 0, 1) := by decide +kernel
theorem d_MO_name_2 : decode b_MO_name 2 = .ok (.putfield 220, 3) := by decide +kernel
theorem d_MO_name_5 : decode b_MO_name 5 = .ok (.aload_n 0, 1) := by decide +kernel
theorem d_MO_name_6 : decode b_MO_name 6 = .ok (.iload_n 1, 1) := by decide +kernel
theorem d_MO_name_7 : decode b_MO_name 7 = .ok (.invokevirtual 507, 3) := by decide +kernel
theorem d_MO_name_10 : decode b_MO_name 10 = .ok (.ifCond .eq 33, 3) := by decide +kernel
theorem d_MO_name_13 : decode b_MO_name 13 = .ok (.iload_n 2, 1) := by decide +kernel
theorem d_MO_name_14 : decode b_MO_name 14 = .ok (.iconst 1, 1) := by decide +kernel
theorem d_MO_name_15 : decode b_MO_name 15 = .ok (.if_icmp .lt 28, 3) := by decide +kernel
theorem d_MO_name_18 : decode b_MO_name 18 = .ok (.iload_n 2, 1) := by decide +kernel
theorem d_MO_name_19 : decode b_MO_name 19 = .ok (.bipush 9, 2) := by decide +kernel
theorem d_MO_name_21 : decode b_MO_name 21 = .ok (.if_icmp .gt 22, 3) := by decide +kernel
theorem d_MO_name_24 : decode b_MO_name 24 = .ok (.iload_n 3, 1) := by decide +kernel
theorem d_MO_name_25 : decode b_MO_name 25 = .ok (.ifCond .lt 18, 3) := by decide +kernel
theorem d_MO_name_28 : decode b_MO_name 28 = .ok (.iload_n 3, 1) := by decide +kernel
theorem d_MO_name_29 : decode b_MO_name 29 = .ok (.aload_n 0, 1) := by decide +kernel
theorem d_MO_name_30 : decode b_MO_name 30 = .ok (.getfield 155, 3) := by decide +kernel
theorem d_MO_name_33 : decode b_MO_name 33 = .ok (.bipush 10, 2) := by decide +kernel
theorem d_MO_name_35 : decode b_MO_name 35 = .ok (.iload_n 1, 1) := by decide +kernel
theorem d_MO_name_36 : decode b_MO_name 36 = .ok (.imul, 1) := by decide +kernel
theorem d_MO_name_37 : decode b_MO_name 37 = .ok (.iload_n 2, 1) := by decide +kernel
theorem d_MO_name_38 : decode b_MO_name 38 = .ok (.iadd, 1) := by decide +kernel
theorem d_MO_name_39 : decode b_MO_name 39 = .ok (.iaload, 1) := by decide +kernel
theorem d_MO_name_40 : decode b_MO_name 40 = .ok (.if_icmp .lt 7, 3) := by decide +kernel
theorem d_MO_name_43 : decode b_MO_name 43 = .ok (.iconst (-1), 1) := by decide +kernel
theorem d_MO_name_44 : decode b_MO_name 44 = .ok (.goto 19, 3) := by decide +kernel
theorem d_MO_name_47 : decode b_MO_name 47 = .ok (.aload_n 0, 1) := by decide +kernel
theorem d_MO_name_48 : decode b_MO_name 48 = .ok (.getfield 152, 3) := by decide +kernel
theorem d_MO_name_51 : decode b_MO_name 51 = .ok (.bipush 120, 2) := by decide +kernel
theorem d_MO_name_53 : decode b_MO_name 53 = .ok (.iload_n 1, 1) := by decide +kernel
theorem d_MO_name_54 : decode b_MO_name 54 = .ok (.imul, 1) := by decide +kernel
theorem d_MO_name_55 : decode b_MO_name 55 = .ok (.bipush 12, 2) := by decide +kernel
theorem d_MO_name_57 : decode b_MO_name 57 = .ok (.iload_n 2, 1) := by decide +kernel
theorem d_MO_name_58 : decode b_MO_name 58 = .ok (.imul, 1) := by decide +kernel
theorem d_MO_name_59 : decode b_MO_name 59 = .ok (.iadd, 1) := by decide +kernel
theorem d_MO_name_60 : decode b_MO_name 60 = .ok (.iload_n 3, 1) := by decide +kernel
theorem d_MO_name_61 : decode b_MO_name 61 = .ok (.iadd, 1) := by decide +kernel
theorem d_MO_name_62 : decode b_MO_name 62 = .ok (.iaload, 1) := by decide +kernel
theorem d_MO_name_63 : decode b_MO_name 63 = .ok (.ireturn, 1) := by decide +kernel
theorem d_MO_match_0 : decode b_MO_match 0 = .ok (.aload_n 0, 1) := by decide +kernel
theorem d_MO_match_1 : decode b_MO_match 1 = .ok (.aload_n 0, 1) := by decide +kernel
theorem d_MO_match_2 : decode b_MO_match 2 = .ok (.iload_n 1, 1) := by decide +kernel
theorem d_MO_match_3 : decode b_MO_match 3 = .ok (.invokevirtual 507, 3) := by decide +kernel
theorem d_MO_match_6 : decode b_MO_match 6 = .ok (.ifCond .eq 35, 3) := by decide +kernel
theorem d_MO_match_9 : decode b_MO_match 9 = .ok (.iload_n 2, 1) := by decide +kernel
theorem d_MO_match_10 : decode b_MO_match 10 = .ok (.ifCond .lt 31, 3) := by decide +kernel
theorem d_MO_match_13 : decode b_MO_match 13 = .ok (.iload_n 2, 1) := by decide +kernel
theorem d_MO_match_14 : decode b_MO_match 14 = .ok (.iconst 2, 1) := by decide +kernel
theorem d_MO_match_15 : decode b_MO_match 15 = .ok (.if_icmp .gt 26, 3) := by decide +kernel
theorem d_MO_match_18 : decode b_MO_match 18 = .ok (.iload_n 3, 1) := by decide +kernel
theorem d_MO_match_19 : decode b_MO_match 19 = .ok (.ifCond .lt 22, 3) := by decide +kernel
theorem d_MO_match_22 : decode b_MO_match 22 = .ok (.iload_n 3, 1) := by decide +kernel
theorem d_MO_match_23 : decode b_MO_match 23 = .ok (.iconst 4, 1) := by decide +kernel
theorem d_MO_match_24 : decode b_MO_match 24 = .ok (.if_icmp .gt 17, 3) := by decide +kernel
theorem d_MO_match_27 : decode b_MO_match 27 = .ok (.iload 4, 2) := by decide +kernel
theorem d_MO_match_29 : decode b_MO_match 29 = .ok (.ifCond .lt 12, 3) := by decide +kernel
theorem d_MO_match_32 : decode b_MO_match 32 = .ok (.iload 4, 2) := by decide +kernel
theorem d_MO_match_34 : decode b_MO_match 34 = .ok (.aload_n 0, 1) := by decide +kernel
theorem d_MO_match_35 : decode b_MO_match 35 = .ok (.getfield 510, 3) := by decide +kernel
theorem d_MO_match_38 : decode b_MO_match 38 = .ok (.if_icmp .le 7, 3) := by decide +kernel
theorem d_MO_match_41 : decode b_MO_match 41 = .ok (.iconst 1, 1) := by decide +kernel
theorem d_MO_match_42 : decode b_MO_match 42 = .ok (.goto 4, 3) := by decide +kernel
theorem d_MO_match_45 : decode b_MO_match 45 = .ok (.iconst 0, 1) := by decide +kernel
theorem d_MO_match_46 : decode b_MO_match 46 = .ok (.putfield 220, 3) := by decide +kernel
theorem d_MO_match_49 : decode b_MO_match 49 = .ok (.aload_n 0, 1) := by decide +kernel
theorem d_MO_match_50 : decode b_MO_match 50 = .ok (.getfield 220, 3) := by decide +kernel
theorem d_MO_match_53 : decode b_MO_match 53 = .ok (.ifCond .le 5, 3) := by decide +kernel
theorem d_MO_match_56 : decode b_MO_match 56 = .ok (.iconst 0, 1) := by decide +kernel
theorem d_MO_match_57 : decode b_MO_match 57 = .ok (.ireturn, 1) := by decide +kernel
theorem d_MO_match_58 : decode b_MO_match 58 = .ok (.iload_n 2, 1) := by decide +kernel
theorem d_MO_match_59 : decode b_MO_match 59 = .ok (.iconst 2, 1) := by decide +kernel
theorem d_MO_match_60 : decode b_MO_match 60 = .ok (.if_icmp .ne 63, 3) := by decide +kernel
theorem d_MO_match_63 : decode b_MO_match 63 = .ok (.aload_n 0, 1) := by decide +kernel
theorem d_MO_match_64 : decode b_MO_match 64 = .ok (.aload_n 0, 1) := by decide +kernel
theorem d_MO_match_65 : decode b_MO_match 65 = .ok (.getfield 181, 3) := by decide +kernel
theorem d_MO_match_68 : decode b_MO_match 68 = .ok (.iload_n 1, 1) := by decide +kernel
theorem d_MO_match_69 : decode b_MO_match 69 = .ok (.aload_n 0, 1) := by decide +kernel
theorem d_MO_match_70 : decode b_MO_match 70 = .ok (.getfield 510, 3) := by decide +kernel
theorem d_MO_match_73 : decode b_MO_match 73 = .ok (.iload 4, 2) := by decide +kernel
theorem d_MO_match_75 : decode b_MO_match 75 = .ok (.iconst 1, 1) := by decide +kernel
theorem d_MO_match_76 : decode b_MO_match 76 = .ok (.invokevirtual 559, 3) := by decide +kernel
theorem d_MO_match_79 : decode b_MO_match 79 = .ok (.aload_n 0, 1) := by decide +kernel
theorem d_MO_match_80 : decode b_MO_match 80 = .ok (.aload_n 0, 1) := by decide +kernel
theorem d_MO_match_81 : decode b_MO_match 81 = .ok (.getfield 181, 3) := by decide +kernel
theorem d_MO_match_84 : decode b_MO_match 84 = .ok (.iload 4, 2) := by decide +kernel
theorem d_MO_match_86 : decode b_MO_match 86 = .ok (.aload_n 0, 1) := by decide +kernel
theorem d_MO_match_87 : decode b_MO_match 87 = .ok (.getfield 112, 3) := by decide +kernel
theorem d_MO_match_90 : decode b_MO_match 90 = .ok (.iload_n 1, 1) := by decide +kernel
theorem d_MO_match_91 : decode b_MO_match 91 = .ok (.iaload, 1) := by decide +kernel
theorem d_MO_match_92 : decode b_MO_match 92 = .ok (.invokestatic 528, 3) := by decide +kernel
theorem d_MO_match_95 : decode b_MO_match 95 = .ok (.putfield 563, 3) := by decide +kernel
theorem d_MO_match_98 : decode b_MO_match 98 = .ok (.aload_n 0, 1) := by decide +kernel
theorem d_MO_match_99 : decode b_MO_match 99 = .ok (.getfield 563, 3) := by decide +kernel
theorem d_MO_match_102 : decode b_MO_match 102 = .ok (.ifCond .eq 57, 3) := by decide +kernel
theorem d_MO_match_105 : decode b_MO_match 105 = .ok (.aload_n 0, 1) := by decide +kernel
theorem d_MO_match_106 : decode b_MO_match 106 = .ok (.aload_n 0, 1) := by decide +kernel
theorem d_MO_match_107 : decode b_MO_match 107 = .ok (.getfield 181, 3) := by decide +kernel
theorem d_MO_match_110 : decode b_MO_match 110 = .ok (.iload_n 1, 1) := by decide +kernel
theorem d_MO_match_111 : decode b_MO_match 111 = .ok (.iload 4, 2) := by decide +kernel
theorem d_MO_match_113 : decode b_MO_match 113 = .ok (.aload_n 0, 1) := by decide +kernel
theorem d_MO_match_114 : decode b_MO_match 114 = .ok (.getfield 510, 3) := by decide +kernel
theorem d_MO_match_117 : decode b_MO_match 117 = .ok (.invokevirtual 552, 3) := by decide +kernel
theorem d_MO_match_120 : decode b_MO_match 120 = .ok (.goto 39, 3) := by decide +kernel
theorem d_MO_match_123 : decode b_MO_match 123 = .ok (.aload_n 0, 1) := by decide +kernel
theorem d_MO_match_124 : decode b_MO_match 124 = .ok (.aload_n 0, 1) := by decide +kernel
theorem d_MO_match_125 : decode b_MO_match 125 = .ok (.getfield 178, 3) := by decide +kernel
theorem d_MO_match_128 : decode b_MO_match 128 = .ok (.iload_n 1, 1) := by decide +kernel
theorem d_MO_match_129 : decode b_MO_match 129 = .ok (.aload_n 0, 1) := by decide +kernel
theorem d_MO_match_130 : decode b_MO_match 130 = .ok (.getfield 510, 3) := by decide +kernel
theorem d_MO_match_133 : decode b_MO_match 133 = .ok (.iload 4, 2) := by decide +kernel
theorem d_MO_match_135 : decode b_MO_match 135 = .ok (.iconst 0, 1) := by decide +kernel
theorem d_MO_match_136 : decode b_MO_match 136 = .ok (.invokevirtual 559, 3) := by decide +kernel
theorem d_MO_match_139 : decode b_MO_match 139 = .ok (.aload_n 0, 1) := by decide +kernel
theorem d_MO_match_140 : decode b_MO_match 140 = .ok (.aload_n 0, 1) := by decide +kernel
theorem d_MO_match_141 : decode b_MO_match 141 = .ok (.iload_n 1, 1) := by decide +kernel
theorem d_MO_match_142 : decode b_MO_match 142 = .ok (.iload 4, 2) := by decide +kernel
theorem d_MO_match_144 : decode b_MO_match 144 = .ok (.iload_n 2, 1) := by decide +kernel
theorem d_MO_match_145 : decode b_MO_match 145 = .ok (.ifCond .ne 7, 3) := by decide +kernel
theorem d_MO_match_148 : decode b_MO_match 148 = .ok (.iconst 1, 1) := by decide +kernel
theorem d_MO_match_149 : decode b_MO_match 149 = .ok (.goto 4, 3) := by decide +kernel
theorem d_MO_match_152 : decode b_MO_match 152 = .ok (.iconst 0, 1) := by decide +kernel
theorem d_MO_match_153 : decode b_MO_match 153 = .ok (.invokevirtual 566, 3) := by decide +kernel
theorem d_MO_match_156 : decode b_MO_match 156 = .ok (.putfield 563, 3) := by decide +kernel
theorem d_MO_match_159 : decode b_MO_match 159 = .ok (.iconst 0, 1) := by decide +kernel
theorem d_MO_match_160 : decode b_MO_match 160 = .ok (.istore 5, 2) := by decide +kernel
theorem d_MO_match_162 : decode b_MO_match 162 = .ok (.iload 5, 2) := by decide +kernel
theorem d_MO_match_164 : decode b_MO_match 164 = .ok (.bipush 20, 2) := by decide +kernel
theorem d_MO_match_166 : decode b_MO_match 166 = .ok (.if_icmp .ge 23, 3) := by decide +kernel
theorem d_MO_match_169 : decode b_MO_match 169 = .ok (.aload_n 0, 1) := by decide +kernel
theorem d_MO_match_170 : decode b_MO_match 170 = .ok (.getfield 193, 3) := by decide +kernel
theorem d_MO_match_173 : decode b_MO_match 173 = .ok (.iload 5, 2) := by decide +kernel
theorem d_MO_match_175 : decode b_MO_match 175 = .ok (.aload_n 0, 1) := by decide +kernel
theorem d_MO_match_176 : decode b_MO_match 176 = .ok (.getfield 190, 3) := by decide +kernel
theorem d_MO_match_179 : decode b_MO_match 179 = .ok (.iload 5, 2) := by decide +kernel
theorem d_MO_match_181 : decode b_MO_match 181 = .ok (.iaload, 1) := by decide +kernel
theorem d_MO_match_182 : decode b_MO_match 182 = .ok (.iastore, 1) := by decide +kernel
theorem d_MO_match_183 : decode b_MO_match 183 = .ok (.iinc 5 1, 3) := by decide +kernel
theorem d_MO_match_186 : decode b_MO_match 186 = .ok (.goto (-24), 3) := by decide +kernel
theorem d_MO_match_189 : decode b_MO_match 189 = .ok (.aload_n 0, 1) := by decide +kernel
theorem d_MO_match_190 : decode b_MO_match 190 = .ok (.aload_n 0, 1) := by decide +kernel
theorem d_MO_match_191 : decode b_MO_match 191 = .ok (.getfield 115, 3) := by decide +kernel
theorem d_MO_match_194 : decode b_MO_match 194 = .ok (.iload_n 1, 1) := by decide +kernel
theorem d_MO_match_195 : decode b_MO_match 195 = .ok (.iaload, 1) := by decide +kernel
theorem d_MO_match_196 : decode b_MO_match 196 = .ok (.putfield 570, 3) := by decide +kernel
theorem d_MO_match_199 : decode b_MO_match 199 = .ok (.aload_n 0, 1) := by decide +kernel
theorem d_MO_match_200 : decode b_MO_match 200 = .ok (.getfield 563, 3) := by decide +kernel
theorem d_MO_match_203 : decode b_MO_match 203 = .ok (.ifCond .eq 12, 3) := by decide +kernel
theorem d_MO_match_206 : decode b_MO_match 206 = .ok (.aload_n 0, 1) := by decide +kernel
theorem d_MO_match_207 : decode b_MO_match 207 = .ok (.getfield 193, 3) := by decide +kernel
theorem d_MO_match_210 : decode b_MO_match 210 = .ok (.iconst 1, 1) := by decide +kernel
theorem d_MO_match_211 : decode b_MO_match 211 = .ok (.iaload, 1) := by decide +kernel
theorem d_MO_match_212 : decode b_MO_match 212 = .ok (.goto 4, 3) := by decide +kernel
theorem d_MO_match_215 : decode b_MO_match 215 = .ok (.iconst (-1), 1) := by decide +kernel
theorem d_MO_match_216 : decode b_MO_match 216 = .ok (.ireturn, 1) := by decide +kernel
theorem d_MO_all_0 : decode b_MO_all 0 = .ok (.aload_n 0, 1) := by decide +kernel
theorem d_MO_all_1 : decode b_MO_all 1 = .ok (.aload_n 0, 1) := by decide +kernel
theorem d_MO_all_2 : decode b_MO_all 2 = .ok (.iload_n 1, 1) := by decide +kernel
theorem d_MO_all_3 : decode b_MO_all 3 = .ok (.invokevirtual 507, 3) := by decide +kernel
theorem d_MO_all_6 : decode b_MO_all 6 = .ok (.ifCond .eq 7, 3) := by decide +kernel
theorem d_MO_all_9 : decode b_MO_all 9 = .ok (.iconst 0, 1) := by decide +kernel
theorem d_MO_all_10 : decode b_MO_all 10 = .ok (.goto 4, 3) := by decide +kernel
theorem d_MO_all_13 : decode b_MO_all 13 = .ok (.iconst 1, 1) := by decide +kernel
theorem d_MO_all_14 : decode b_MO_all 14 = .ok (.putfield 220, 3) := by decide +kernel
theorem d_MO_all_17 : decode b_MO_all 17 = .ok (.aload_n 0, 1) := by decide +kernel
theorem d_MO_all_18 : decode b_MO_all 18 = .ok (.getfield 220, 3) := by decide +kernel
theorem d_MO_all_21 : decode b_MO_all 21 = .ok (.ifCond .le 5, 3) := by decide +kernel
theorem d_MO_all_24 : decode b_MO_all 24 = .ok (.iconst 0, 1) := by decide +kernel
theorem d_MO_all_25 : decode b_MO_all 25 = .ok (.ireturn, 1) := by decide +kernel
theorem d_MO_all_26 : decode b_MO_all 26 = .ok (.aload_n 0, 1) := by decide +kernel
theorem d_MO_all_27 : decode b_MO_all 27 = .ok (.iconst 0, 1) := by decide +kernel
theorem d_MO_all_28 : decode b_MO_all 28 = .ok (.putfield 579, 3) := by decide +kernel
theorem d_MO_all_31 : decode b_MO_all 31 = .ok (.aload_n 0, 1) := by decide +kernel
theorem d_MO_all_32 : decode b_MO_all 32 = .ok (.iload_n 1, 1) := by decide +kernel
theorem d_MO_all_33 : decode b_MO_all 33 = .ok (.invokevirtual 582, 3) := by decide +kernel
theorem d_MO_all_36 : decode b_MO_all 36 = .ok (.aload_n 0, 1) := by decide +kernel
theorem d_MO_all_37 : decode b_MO_all 37 = .ok (.iload_n 1, 1) := by decide +kernel
theorem d_MO_all_38 : decode b_MO_all 38 = .ok (.invokevirtual 585, 3) := by decide +kernel
theorem d_MO_all_41 : decode b_MO_all 41 = .ok (.ifCond .eq 52, 3) := by decide +kernel
theorem d_MO_all_44 : decode b_MO_all 44 = .ok (.aload_n 0, 1) := by decide +kernel
theorem d_MO_all_45 : decode b_MO_all 45 = .ok (.getfield 211, 3) := by decide +kernel
theorem d_MO_all_48 : decode b_MO_all 48 = .ok (.iconst 2, 1) := by decide +kernel
theorem d_MO_all_49 : decode b_MO_all 49 = .ok (.aload_n 0, 1) := by decide +kernel
theorem d_MO_all_50 : decode b_MO_all 50 = .ok (.getfield 579, 3) := by decide +kernel
theorem d_MO_all_53 : decode b_MO_all 53 = .ok (.imul, 1) := by decide +kernel
theorem d_MO_all_54 : decode b_MO_all 54 = .ok (.aload_n 0, 1) := by decide +kernel
theorem d_MO_all_55 : decode b_MO_all 55 = .ok (.getfield 190, 3) := by decide +kernel
theorem d_MO_all_58 : decode b_MO_all 58 = .ok (.iconst 0, 1) := by decide +kernel
theorem d_MO_all_59 : decode b_MO_all 59 = .ok (.iaload, 1) := by decide +kernel
theorem d_MO_all_60 : decode b_MO_all 60 = .ok (.iastore, 1) := by decide +kernel
theorem d_MO_all_61 : decode b_MO_all 61 = .ok (.aload_n 0, 1) := by decide +kernel
theorem d_MO_all_62 : decode b_MO_all 62 = .ok (.getfield 211, 3) := by decide +kernel
theorem d_MO_all_65 : decode b_MO_all 65 = .ok (.iconst 2, 1) := by decide +kernel
theorem d_MO_all_66 : decode b_MO_all 66 = .ok (.aload_n 0, 1) := by decide +kernel
theorem d_MO_all_67 : decode b_MO_all 67 = .ok (.getfield 579, 3) := by decide +kernel
theorem d_MO_all_70 : decode b_MO_all 70 = .ok (.imul, 1) := by decide +kernel
theorem d_MO_all_71 : decode b_MO_all 71 = .ok (.iconst 1, 1) := by decide +kernel
theorem d_MO_all_72 : decode b_MO_all 72 = .ok (.iadd, 1) := by decide +kernel
theorem d_MO_all_73 : decode b_MO_all 73 = .ok (.aload_n 0, 1) := by decide +kernel
theorem d_MO_all_74 : decode b_MO_all 74 = .ok (.getfield 190, 3) := by decide +kernel
theorem d_MO_all_77 : decode b_MO_all 77 = .ok (.iconst 1, 1) := by decide +kernel
theorem d_MO_all_78 : decode b_MO_all 78 = .ok (.iaload, 1) := by decide +kernel
theorem d_MO_all_79 : decode b_MO_all 79 = .ok (.iastore, 1) := by decide +kernel
theorem d_MO_all_80 : decode b_MO_all 80 = .ok (.aload_n 0, 1) := by decide +kernel
theorem d_MO_all_81 : decode b_MO_all 81 = .ok (.dup, 1) := by decide +kernel
theorem d_MO_all_82 : decode b_MO_all 82 = .ok (.getfield 579, 3) := by decide +kernel
theorem d_MO_all_85 : decode b_MO_all 85 = .ok (.iconst 1, 1) := by decide +kernel
theorem d_MO_all_86 : decode b_MO_all 86 = .ok (.iadd, 1) := by decide +kernel
theorem d_MO_all_87 : decode b_MO_all 87 = .ok (.putfield 579, 3) := by decide +kernel
theorem d_MO_all_90 : decode b_MO_all 90 = .ok (.goto (-54), 3) := by decide +kernel
theorem d_MO_all_93 : decode b_MO_all 93 = .ok (.aload_n 0, 1) := by decide +kernel
theorem d_MO_all_94 : decode b_MO_all 94 = .ok (.getfield 579, 3) := by decide +kernel
theorem d_MO_all_97 : decode b_MO_all 97 = .ok (.ireturn, 1) := by decide +kernel
theorem d_MO_split1_0 : decode b_MO_split1 0 = .ok (.aload_n 0, 1) := by decide +kernel
theorem d_MO_split1_1 : decode b_MO_split1 1 = .ok (.aload_n 0, 1) := by decide +kernel
theorem d_MO_split1_2 : decode b_MO_split1 2 = .ok (.iload_n 1, 1) := by decide +kernel
theorem d_MO_split1_3 : decode b_MO_split1 3 = .ok (.invokevirtual 507, 3) := by decide +kernel
theorem d_MO_split1_6 : decode b_MO_split1 6 = .ok (.ifCond .eq 7, 3) := by decide +kernel
theorem d_MO_split1_9 : decode b_MO_split1 9 = .ok (.iconst 0, 1) := by decide +kernel
theorem d_MO_split1_10 : decode b_MO_split1 10 = .ok (.goto 4, 3) := by decide +kernel
theorem d_MO_split1_13 : decode b_MO_split1 13 = .ok (.iconst 1, 1) := by decide +kernel
theorem d_MO_split1_14 : decode b_MO_split1 14 = .ok (.putfield 220, 3) := by decide +kernel
theorem d_MO_split1_17 : decode b_MO_split1 17 = .ok (.aload_n 0, 1) := by decide +kernel
theorem d_MO_split1_18 : decode b_MO_split1 18 = .ok (.getfield 220, 3) := by decide +kernel
theorem d_MO_split1_21 : decode b_MO_split1 21 = .ok (.ifCond .le 5, 3) := by decide +kernel
theorem d_MO_split1_24 : decode b_MO_split1 24 = .ok (.iconst 0, 1) := by decide +kernel
theorem d_MO_split1_25 : decode b_MO_split1 25 = .ok (.ireturn, 1) := by decide +kernel
theorem d_MO_split1_26 : decode b_MO_split1 26 = .ok (.aload_n 0, 1) := by decide +kernel
theorem d_MO_split1_27 : decode b_MO_split1 27 = .ok (.iconst 0, 1) := by decide +kernel
theorem d_MO_split1_28 : decode b_MO_split1 28 = .ok (.putfield 588, 3) := by decide +kernel
theorem d_MO_split1_31 : decode b_MO_split1 31 = .ok (.iconst 0, 1) := by decide +kernel
theorem d_MO_split1_32 : decode b_MO_split1 32 = .ok (.istore_n 2, 1) := by decide +kernel
theorem d_MO_split1_33 : decode b_MO_split1 33 = .ok (.aload_n 0, 1) := by decide +kernel
theorem d_MO_split1_34 : decode b_MO_split1 34 = .ok (.iload_n 1, 1) := by decide +kernel
theorem d_MO_split1_35 : decode b_MO_split1 35 = .ok (.invokevirtual 582, 3) := by decide +kernel
theorem d_MO_split1_38 : decode b_MO_split1 38 = .ok (.aload_n 0, 1) := by decide +kernel
theorem d_MO_split1_39 : decode b_MO_split1 39 = .ok (.iload_n 1, 1) := by decide +kernel
theorem d_MO_split1_40 : decode b_MO_split1 40 = .ok (.invokevirtual 585, 3) := by decide +kernel
theorem d_MO_split1_43 : decode b_MO_split1 43 = .ok (.ifCond .eq 64, 3) := by decide +kernel
theorem d_MO_split1_46 : decode b_MO_split1 46 = .ok (.aload_n 0, 1) := by decide +kernel
theorem d_MO_split1_47 : decode b_MO_split1 47 = .ok (.getfield 190, 3) := by decide +kernel
theorem d_MO_split1_50 : decode b_MO_split1 50 = .ok (.iconst 0, 1) := by decide +kernel
theorem d_MO_split1_51 : decode b_MO_split1 51 = .ok (.iaload, 1) := by decide +kernel
theorem d_MO_split1_52 : decode b_MO_split1 52 = .ok (.aload_n 0, 1) := by decide +kernel
theorem d_MO_split1_53 : decode b_MO_split1 53 = .ok (.getfield 190, 3) := by decide +kernel
theorem d_MO_split1_56 : decode b_MO_split1 56 = .ok (.iconst 1, 1) := by decide +kernel
theorem d_MO_split1_57 : decode b_MO_split1 57 = .ok (.iaload, 1) := by decide +kernel
theorem d_MO_split1_58 : decode b_MO_split1 58 = .ok (.if_icmp .ne 28, 3) := by decide +kernel
theorem d_MO_split1_61 : decode b_MO_split1 61 = .ok (.aload_n 0, 1) := by decide +kernel
theorem d_MO_split1_62 : decode b_MO_split1 62 = .ok (.getfield 190, 3) := by decide +kernel
theorem d_MO_split1_65 : decode b_MO_split1 65 = .ok (.iconst 0, 1) := by decide +kernel
theorem d_MO_split1_66 : decode b_MO_split1 66 = .ok (.iaload, 1) := by decide +kernel
theorem d_MO_split1_67 : decode b_MO_split1 67 = .ok (.ifCond .eq (-29), 3) := by decide +kernel
theorem d_MO_split1_70 : decode b_MO_split1 70 = .ok (.aload_n 0, 1) := by decide +kernel
theorem d_MO_split1_71 : decode b_MO_split1 71 = .ok (.getfield 190, 3) := by decide +kernel
theorem d_MO_split1_74 : decode b_MO_split1 74 = .ok (.iconst 0, 1) := by decide +kernel
theorem d_MO_split1_75 : decode b_MO_split1 75 = .ok (.iaload, 1) := by decide +kernel
theorem d_MO_split1_76 : decode b_MO_split1 76 = .ok (.aload_n 0, 1) := by decide +kernel
theorem d_MO_split1_77 : decode b_MO_split1 77 = .ok (.getfield 510, 3) := by decide +kernel
theorem d_MO_split1_80 : decode b_MO_split1 80 = .ok (.if_icmp .ne 6, 3) := by decide +kernel
theorem d_MO_split1_83 : decode b_MO_split1 83 = .ok (.goto (-45), 3) := by decide +kernel
theorem d_MO_split1_86 : decode b_MO_split1 86 = .ok (.aload_n 0, 1) := by decide +kernel
theorem d_MO_split1_87 : decode b_MO_split1 87 = .ok (.iload_n 2, 1) := by decide +kernel
theorem d_MO_split1_88 : decode b_MO_split1 88 = .ok (.aload_n 0, 1) := by decide +kernel
theorem d_MO_split1_89 : decode b_MO_split1 89 = .ok (.getfield 190, 3) := by decide +kernel
theorem d_MO_split1_92 : decode b_MO_split1 92 = .ok (.iconst 0, 1) := by decide +kernel
theorem d_MO_split1_93 : decode b_MO_split1 93 = .ok (.iaload, 1) := by decide +kernel
theorem d_MO_split1_94 : decode b_MO_split1 94 = .ok (.invokevirtual 591, 3) := by decide +kernel
theorem d_MO_split1_97 : decode b_MO_split1 97 = .ok (.aload_n 0, 1) := by decide +kernel
theorem d_MO_split1_98 : decode b_MO_split1 98 = .ok (.getfield 190, 3) := by decide +kernel
theorem d_MO_split1_101 : decode b_MO_split1 101 = .ok (.iconst 1, 1) := by decide +kernel
theorem d_MO_split1_102 : decode b_MO_split1 102 = .ok (.iaload, 1) := by decide +kernel
theorem d_MO_split1_103 : decode b_MO_split1 103 = .ok (.istore_n 2, 1) := by decide +kernel
theorem d_MO_split1_104 : decode b_MO_split1 104 = .ok (.goto (-66), 3) := by decide +kernel
theorem d_MO_split1_107 : decode b_MO_split1 107 = .ok (.aload_n 0, 1) := by decide +kernel
theorem d_MO_split1_108 : decode b_MO_split1 108 = .ok (.iload_n 2, 1) := by decide +kernel
theorem d_MO_split1_109 : decode b_MO_split1 109 = .ok (.aload_n 0, 1) := by decide +kernel
theorem d_MO_split1_110 : decode b_MO_split1 110 = .ok (.getfield 510, 3) := by decide +kernel
theorem d_MO_split1_113 : decode b_MO_split1 113 = .ok (.invokevirtual 591, 3) := by decide +kernel
theorem d_MO_split1_116 : decode b_MO_split1 116 = .ok (.aload_n 0, 1) := by decide +kernel
theorem d_MO_split1_117 : decode b_MO_split1 117 = .ok (.getfield 588, 3) := by decide +kernel
theorem d_MO_split1_120 : decode b_MO_split1 120 = .ok (.ireturn, 1) := by decide +kernel
theorem d_MO_replace_0 : decode b_MO_replace 0 = .ok (.aload_n 0, 1) := by decide +kernel
theorem d_MO_replace_1 : decode b_MO_replace 1 = .ok (.aload_n 0, 1) := by decide +kernel
theorem d_MO_replace_2 : decode b_MO_replace 2 = .ok (.iload_n 1, 1) := by decide +kernel
theorem d_MO_replace_3 : decode b_MO_replace 3 = .ok (.invokevirtual 507, 3) := by decide +kernel
theorem d_MO_replace_6 : decode b_MO_replace 6 = .ok (.ifCond .eq 7, 3) := by decide +kernel
theorem d_MO_replace_9 : decode b_MO_replace 9 = .ok (.iconst 0, 1) := by decide +kernel
theorem d_MO_replace_10 : decode b_MO_replace 10 = .ok (.goto 4, 3) := by decide +kernel
theorem d_MO_replace_13 : decode b_MO_replace 13 = .ok (.iconst 1, 1) := by decide +kernel
theorem d_MO_replace_14 : decode b_MO_replace 14 = .ok (.putfield 220, 3) := by decide +kernel
theorem d_MO_replace_17 : decode b_MO_replace 17 = .ok (.aload_n 0, 1) := by decide +kernel
theorem d_MO_replace_18 : decode b_MO_replace 18 = .ok (.getfield 220, 3) := by decide +kernel
theorem d_MO_replace_21 : decode b_MO_replace 21 = .ok (.ifCond .le 5, 3) := by decide +kernel
theorem d_MO_replace_24 : decode b_MO_replace 24 = .ok (.iconst 0, 1) := by decide +kernel
theorem d_MO_replace_25 : decode b_MO_replace 25 = .ok (.ireturn, 1) := by decide +kernel
theorem d_MO_replace_26 : decode b_MO_replace 26 = .ok (.aload_n 0, 1) := by decide +kernel
theorem d_MO_replace_27 : decode b_MO_replace 27 = .ok (.getfield 223, 3) := by decide +kernel
theorem d_MO_replace_30 : decode b_MO_replace 30 = .ok (.istore_n 2, 1) := by decide +kernel
theorem d_MO_replace_31 : decode b_MO_replace 31 = .ok (.aload_n 0, 1) := by decide +kernel
theorem d_MO_replace_32 : decode b_MO_replace 32 = .ok (.iconst 0, 1) := by decide +kernel
theorem d_MO_replace_33 : decode b_MO_replace 33 = .ok (.putfield 223, 3) := by decide +kernel
theorem d_MO_replace_36 : decode b_MO_replace 36 = .ok (.aload_n 0, 1) := by decide +kernel
theorem d_MO_replace_37 : decode b_MO_replace 37 = .ok (.iload_n 1, 1) := by decide +kernel
theorem d_MO_replace_38 : decode b_MO_replace 38 = .ok (.iload_n 2, 1) := by decide +kernel
theorem d_MO_replace_39 : decode b_MO_replace 39 = .ok (.invokevirtual 612, 3) := by decide +kernel
theorem d_MO_replace_42 : decode b_MO_replace 42 = .ok (.ifCond .ne 10, 3) := by decide +kernel
theorem d_MO_replace_45 : decode b_MO_replace 45 = .ok (.aload_n 0, 1) := by decide +kernel
theorem d_MO_replace_46 : decode b_MO_replace 46 = .ok (.iconst 1, 1) := by decide +kernel
theorem d_MO_replace_47 : decode b_MO_replace 47 = .ok (.putfield 220, 3) := by decide +kernel
theorem d_MO_replace_50 : decode b_MO_replace 50 = .ok (.iconst 0, 1) := by decide +kernel
theorem d_MO_replace_51 : decode b_MO_replace 51 = .ok (.ireturn, 1) := by decide +kernel
theorem d_MO_replace_52 : decode b_MO_replace 52 = .ok (.aload_n 0, 1) := by decide +kernel
theorem d_MO_replace_53 : decode b_MO_replace 53 = .ok (.iconst 0, 1) := by decide +kernel
theorem d_MO_replace_54 : decode b_MO_replace 54 = .ok (.putfield 594, 3) := by decide +kernel
theorem d_MO_replace_57 : decode b_MO_replace 57 = .ok (.aload_n 0, 1) := by decide +kernel
theorem d_MO_replace_58 : decode b_MO_replace 58 = .ok (.iconst 0, 1) := by decide +kernel
theorem d_MO_replace_59 : decode b_MO_replace 59 = .ok (.putfield 597, 3) := by decide +kernel
theorem d_MO_replace_62 : decode b_MO_replace 62 = .ok (.iconst 0, 1) := by decide +kernel
theorem d_MO_replace_63 : decode b_MO_replace 63 = .ok (.istore_n 3, 1) := by decide +kernel
theorem d_MO_replace_64 : decode b_MO_replace 64 = .ok (.aload_n 0, 1) := by decide +kernel
theorem d_MO_replace_65 : decode b_MO_replace 65 = .ok (.iload_n 1, 1) := by decide +kernel
theorem d_MO_replace_66 : decode b_MO_replace 66 = .ok (.invokevirtual 582, 3) := by decide +kernel
theorem d_MO_replace_69 : decode b_MO_replace 69 = .ok (.aload_n 0, 1) := by decide +kernel
theorem d_MO_replace_70 : decode b_MO_replace 70 = .ok (.getfield 597, 3) := by decide +kernel
theorem d_MO_replace_73 : decode b_MO_replace 73 = .ok (.ifCond .ne 38, 3) := by decide +kernel
theorem d_MO_replace_76 : decode b_MO_replace 76 = .ok (.aload_n 0, 1) := by decide +kernel
theorem d_MO_replace_77 : decode b_MO_replace 77 = .ok (.iload_n 1, 1) := by decide +kernel
theorem d_MO_replace_78 : decode b_MO_replace 78 = .ok (.invokevirtual 585, 3) := by decide +kernel
theorem d_MO_replace_81 : decode b_MO_replace 81 = .ok (.ifCond .eq 30, 3) := by decide +kernel
theorem d_MO_replace_84 : decode b_MO_replace 84 = .ok (.aload_n 0, 1) := by decide +kernel
theorem d_MO_replace_85 : decode b_MO_replace 85 = .ok (.iload_n 3, 1) := by decide +kernel
theorem d_MO_replace_86 : decode b_MO_replace 86 = .ok (.aload_n 0, 1) := by decide +kernel
theorem d_MO_replace_87 : decode b_MO_replace 87 = .ok (.getfield 190, 3) := by decide +kernel
theorem d_MO_replace_90 : decode b_MO_replace 90 = .ok (.iconst 0, 1) := by decide +kernel
theorem d_MO_replace_91 : decode b_MO_replace 91 = .ok (.iaload, 1) := by decide +kernel
theorem d_MO_replace_92 : decode b_MO_replace 92 = .ok (.invokevirtual 609, 3) := by decide +kernel
theorem d_MO_replace_95 : decode b_MO_replace 95 = .ok (.aload_n 0, 1) := by decide +kernel
theorem d_MO_replace_96 : decode b_MO_replace 96 = .ok (.iload_n 1, 1) := by decide +kernel
theorem d_MO_replace_97 : decode b_MO_replace 97 = .ok (.iload_n 2, 1) := by decide +kernel
theorem d_MO_replace_98 : decode b_MO_replace 98 = .ok (.invokevirtual 615, 3) := by decide +kernel
theorem d_MO_replace_101 : decode b_MO_replace 101 = .ok (.aload_n 0, 1) := by decide +kernel
theorem d_MO_replace_102 : decode b_MO_replace 102 = .ok (.getfield 190, 3) := by decide +kernel
theorem d_MO_replace_105 : decode b_MO_replace 105 = .ok (.iconst 1, 1) := by decide +kernel
theorem d_MO_replace_106 : decode b_MO_replace 106 = .ok (.iaload, 1) := by decide +kernel
theorem d_MO_replace_107 : decode b_MO_replace 107 = .ok (.istore_n 3, 1) := by decide +kernel
theorem d_MO_replace_108 : decode b_MO_replace 108 = .ok (.goto (-39), 3) := by decide +kernel
theorem d_MO_replace_111 : decode b_MO_replace 111 = .ok (.aload_n 0, 1) := by decide +kernel
theorem d_MO_replace_112 : decode b_MO_replace 112 = .ok (.iload_n 3, 1) := by decide +kernel
theorem d_MO_replace_113 : decode b_MO_replace 113 = .ok (.aload_n 0, 1) := by decide +kernel
theorem d_MO_replace_114 : decode b_MO_replace 114 = .ok (.getfield 510, 3) := by decide +kernel
theorem d_MO_replace_117 : decode b_MO_replace 117 = .ok (.invokevirtual 609, 3) := by decide +kernel
theorem d_MO_replace_120 : decode b_MO_replace 120 = .ok (.aload_n 0, 1) := by decide +kernel
theorem d_MO_replace_121 : decode b_MO_replace 121 = .ok (.aload_n 0, 1) := by decide +kernel
theorem d_MO_replace_122 : decode b_MO_replace 122 = .ok (.getfield 597, 3) := by decide +kernel
theorem d_MO_replace_125 : decode b_MO_replace 125 = .ok (.ifCond .eq 7, 3) := by decide +kernel
theorem d_MO_replace_128 : decode b_MO_replace 128 = .ok (.iconst 1, 1) := by decide +kernel
theorem d_MO_replace_129 : decode b_MO_replace 129 = .ok (.goto 4, 3) := by decide +kernel
theorem d_MO_replace_132 : decode b_MO_replace 132 = .ok (.iconst 0, 1) := by decide +kernel
theorem d_MO_replace_133 : decode b_MO_replace 133 = .ok (.putfield 220, 3) := by decide +kernel
theorem d_MO_replace_136 : decode b_MO_replace 136 = .ok (.aload_n 0, 1) := by decide +kernel
theorem d_MO_replace_137 : decode b_MO_replace 137 = .ok (.getfield 597, 3) := by decide +kernel
theorem d_MO_replace_140 : decode b_MO_replace 140 = .ok (.ifCond .eq 5, 3) := by decide +kernel
theorem d_MO_replace_143 : decode b_MO_replace 143 = .ok (.iconst 0, 1) := by decide +kernel
theorem d_MO_replace_144 : decode b_MO_replace 144 = .ok (.ireturn, 1) := by decide +kernel
theorem d_MO_replace_145 : decode b_MO_replace 145 = .ok (.aload_n 0, 1) := by decide +kernel
theorem d_MO_replace_146 : decode b_MO_replace 146 = .ok (.aload_n 0, 1) := by decide +kernel
theorem d_MO_replace_147 : decode b_MO_replace 147 = .ok (.getfield 594, 3) := by decide +kernel
theorem d_MO_replace_150 : decode b_MO_replace 150 = .ok (.putfield 618, 3) := by decide +kernel
theorem d_MO_replace_153 : decode b_MO_replace 153 = .ok (.iconst 0, 1) := by decide +kernel
theorem d_MO_replace_154 : decode b_MO_replace 154 = .ok (.istore 4, 2) := by decide +kernel
theorem d_MO_replace_156 : decode b_MO_replace 156 = .ok (.iload 4, 2) := by decide +kernel
theorem d_MO_replace_158 : decode b_MO_replace 158 = .ok (.aload_n 0, 1) := by decide +kernel
theorem d_MO_replace_159 : decode b_MO_replace 159 = .ok (.getfield 618, 3) := by decide +kernel
theorem d_MO_replace_162 : decode b_MO_replace 162 = .ok (.if_icmp .ge 23, 3) := by decide +kernel
theorem d_MO_replace_165 : decode b_MO_replace 165 = .ok (.aload_n 0, 1) := by decide +kernel
theorem d_MO_replace_166 : decode b_MO_replace 166 = .ok (.getfield 25, 3) := by decide +kernel
theorem d_MO_replace_169 : decode b_MO_replace 169 = .ok (.iload 4, 2) := by decide +kernel
theorem d_MO_replace_171 : decode b_MO_replace 171 = .ok (.aload_n 0, 1) := by decide +kernel
theorem d_MO_replace_172 : decode b_MO_replace 172 = .ok (.getfield 217, 3) := by decide +kernel
theorem d_MO_replace_175 : decode b_MO_replace 175 = .ok (.iload 4, 2) := by decide +kernel
theorem d_MO_replace_177 : decode b_MO_replace 177 = .ok (.iaload, 1) := by decide +kernel
theorem d_MO_replace_178 : decode b_MO_replace 178 = .ok (.iastore, 1) := by decide +kernel
theorem d_MO_replace_179 : decode b_MO_replace 179 = .ok (.iinc 4 1, 3) := by decide +kernel
theorem d_MO_replace_182 : decode b_MO_replace 182 = .ok (.goto (-26), 3) := by decide +kernel
theorem d_MO_replace_185 : decode b_MO_replace 185 = .ok (.aload_n 0, 1) := by decide +kernel
theorem d_MO_replace_186 : decode b_MO_replace 186 = .ok (.getfield 618, 3) := by decide +kernel
theorem d_MO_replace_189 : decode b_MO_replace 189 = .ok (.ireturn, 1) := by decide +kernel
theorem d_MO_keep_0 : decode b_MO_keep 0 = .ok (.aload_n 0, 1) := by decide +kernel
theorem d_MO_keep_1 : decode b_MO_keep 1 = .ok (.iload_n 1, 1) := by decide +kernel
theorem d_MO_keep_2 : decode b_MO_keep 2 = .ok (.iconst 4, 1) := by decide +kernel
theorem d_MO_keep_3 : decode b_MO_keep 3 = .ok (.if_icmp .lt 9, 3) := by decide +kernel
theorem d_MO_keep_6 : decode b_MO_keep 6 = .ok (.iload_n 1, 1) := by decide +kernel
theorem d_MO_keep_7 : decode b_MO_keep 7 = .ok (.bipush 64, 2) := by decide +kernel
theorem d_MO_keep_9 : decode b_MO_keep 9 = .ok (.if_icmp .le 7, 3) := by decide +kernel
theorem d_MO_keep_12 : decode b_MO_keep 12 = .ok (.iconst 1, 1) := by decide +kernel
theorem d_MO_keep_13 : decode b_MO_keep 13 = .ok (.goto 4, 3) := by decide +kernel
theorem d_MO_keep_16 : decode b_MO_keep 16 = .ok (.iconst 0, 1) := by decide +kernel
theorem d_MO_keep_17 : decode b_MO_keep 17 = .ok (.putfield 220, 3) := by decide +kernel
theorem d_MO_keep_20 : decode b_MO_keep 20 = .ok (.return_, 1) := by decide +kernel
theorem d_MO_quote_0 : decode b_MO_quote 0 = .ok (.aload_n 0, 1) := by decide +kernel
theorem d_MO_quote_1 : decode b_MO_quote 1 = .ok (.iconst 0, 1) := by decide +kernel
theorem d_MO_quote_2 : decode b_MO_quote 2 = .ok (.putfield 220, 3) := by decide +kernel
theorem d_MO_quote_5 : decode b_MO_quote 5 = .ok (.aload_n 0, 1) := by decide +kernel
theorem d_MO_quote_6 : decode b_MO_quote 6 = .ok (.iconst 0, 1) := by decide +kernel
theorem d_MO_quote_7 : decode b_MO_quote 7 = .ok (.putfield 618, 3) := by decide +kernel
theorem d_MO_quote_10 : decode b_MO_quote 10 = .ok (.iconst 0, 1) := by decide +kernel
theorem d_MO_quote_11 : decode b_MO_quote 11 = .ok (.istore_n 1, 1) := by decide +kernel
theorem d_MO_quote_12 : decode b_MO_quote 12 = .ok (.iload_n 1, 1) := by decide +kernel
theorem d_MO_quote_13 : decode b_MO_quote 13 = .ok (.aload_n 0, 1) := by decide +kernel
theorem d_MO_quote_14 : decode b_MO_quote 14 = .ok (.getfield 223, 3) := by decide +kernel
theorem d_MO_quote_17 : decode b_MO_quote 17 = .ok (.if_icmp .ge 88, 3) := by decide +kernel
theorem d_MO_quote_20 : decode b_MO_quote 20 = .ok (.aload_n 0, 1) := by decide +kernel
theorem d_MO_quote_21 : decode b_MO_quote 21 = .ok (.getfield 19, 3) := by decide +kernel
theorem d_MO_quote_24 : decode b_MO_quote 24 = .ok (.iload_n 1, 1) := by decide +kernel
theorem d_MO_quote_25 : decode b_MO_quote 25 = .ok (.iaload, 1) := by decide +kernel
theorem d_MO_quote_26 : decode b_MO_quote 26 = .ok (.bipush 127, 2) := by decide +kernel
theorem d_MO_quote_28 : decode b_MO_quote 28 = .ok (.if_icmp .gt 15, 3) := by decide +kernel
theorem d_MO_quote_31 : decode b_MO_quote 31 = .ok (.aload_n 0, 1) := by decide +kernel
theorem d_MO_quote_32 : decode b_MO_quote 32 = .ok (.getfield 19, 3) := by decide +kernel
theorem d_MO_quote_35 : decode b_MO_quote 35 = .ok (.iload_n 1, 1) := by decide +kernel
theorem d_MO_quote_36 : decode b_MO_quote 36 = .ok (.iaload, 1) := by decide +kernel
theorem d_MO_quote_37 : decode b_MO_quote 37 = .ok (.invokestatic 326, 3) := by decide +kernel
theorem d_MO_quote_40 : decode b_MO_quote 40 = .ok (.ifCond .eq 7, 3) := by decide +kernel
theorem d_MO_quote_43 : decode b_MO_quote 43 = .ok (.iconst 1, 1) := by decide +kernel
theorem d_MO_quote_44 : decode b_MO_quote 44 = .ok (.goto 4, 3) := by decide +kernel
theorem d_MO_quote_47 : decode b_MO_quote 47 = .ok (.iconst 0, 1) := by decide +kernel
theorem d_MO_quote_48 : decode b_MO_quote 48 = .ok (.istore_n 2, 1) := by decide +kernel
theorem d_MO_quote_49 : decode b_MO_quote 49 = .ok (.iload_n 2, 1) := by decide +kernel
theorem d_MO_quote_50 : decode b_MO_quote 50 = .ok (.ifCond .ne 24, 3) := by decide +kernel
theorem d_MO_quote_53 : decode b_MO_quote 53 = .ok (.aload_n 0, 1) := by decide +kernel
theorem d_MO_quote_54 : decode b_MO_quote 54 = .ok (.getfield 25, 3) := by decide +kernel
theorem d_MO_quote_57 : decode b_MO_quote 57 = .ok (.aload_n 0, 1) := by decide +kernel
theorem d_MO_quote_58 : decode b_MO_quote 58 = .ok (.getfield 618, 3) := by decide +kernel
theorem d_MO_quote_61 : decode b_MO_quote 61 = .ok (.bipush 92, 2) := by decide +kernel
theorem d_MO_quote_63 : decode b_MO_quote 63 = .ok (.iastore, 1) := by decide +kernel
theorem d_MO_quote_64 : decode b_MO_quote 64 = .ok (.aload_n 0, 1) := by decide +kernel
theorem d_MO_quote_65 : decode b_MO_quote 65 = .ok (.dup, 1) := by decide +kernel
theorem d_MO_quote_66 : decode b_MO_quote 66 = .ok (.getfield 618, 3) := by decide +kernel
theorem d_MO_quote_69 : decode b_MO_quote 69 = .ok (.iconst 1, 1) := by decide +kernel
theorem d_MO_quote_70 : decode b_MO_quote 70 = .ok (.iadd, 1) := by decide +kernel
theorem d_MO_quote_71 : decode b_MO_quote 71 = .ok (.putfield 618, 3) := by decide +kernel
theorem d_MO_quote_74 : decode b_MO_quote 74 = .ok (.aload_n 0, 1) := by decide +kernel
theorem d_MO_quote_75 : decode b_MO_quote 75 = .ok (.getfield 25, 3) := by decide +kernel
theorem d_MO_quote_78 : decode b_MO_quote 78 = .ok (.aload_n 0, 1) := by decide +kernel
theorem d_MO_quote_79 : decode b_MO_quote 79 = .ok (.getfield 618, 3) := by decide +kernel
theorem d_MO_quote_82 : decode b_MO_quote 82 = .ok (.aload_n 0, 1) := by decide +kernel
theorem d_MO_quote_83 : decode b_MO_quote 83 = .ok (.getfield 19, 3) := by decide +kernel
theorem d_MO_quote_86 : decode b_MO_quote 86 = .ok (.iload_n 1, 1) := by decide +kernel
theorem d_MO_quote_87 : decode b_MO_quote 87 = .ok (.iaload, 1) := by decide +kernel
theorem d_MO_quote_88 : decode b_MO_quote 88 = .ok (.iastore, 1) := by decide +kernel
theorem d_MO_quote_89 : decode b_MO_quote 89 = .ok (.aload_n 0, 1) := by decide +kernel
theorem d_MO_quote_90 : decode b_MO_quote 90 = .ok (.dup, 1) := by decide +kernel
theorem d_MO_quote_91 : decode b_MO_quote 91 = .ok (.getfield 618, 3) := by decide +kernel
theorem d_MO_quote_94 : decode b_MO_quote 94 = .ok (.iconst 1, 1) := by decide +kernel
theorem d_MO_quote_95 : decode b_MO_quote 95 = .ok (.iadd, 1) := by decide +kernel
theorem d_MO_quote_96 : decode b_MO_quote 96 = .ok (.putfield 618, 3) := by decide +kernel
theorem d_MO_quote_99 : decode b_MO_quote 99 = .ok (.iinc 1 1, 3) := by decide +kernel
theorem d_MO_quote_102 : decode b_MO_quote 102 = .ok (.goto (-90), 3) := by decide +kernel
theorem d_MO_quote_105 : decode b_MO_quote 105 = .ok (.aload_n 0, 1) := by decide +kernel
theorem d_MO_quote_106 : decode b_MO_quote 106 = .ok (.iconst 0, 1) := by decide +kernel
theorem d_MO_quote_107 : decode b_MO_quote 107 = .ok (.putfield 223, 3) := by decide +kernel
theorem d_MO_quote_110 : decode b_MO_quote 110 = .ok (.aload_n 0, 1) := by decide +kernel
theorem d_MO_quote_111 : decode b_MO_quote 111 = .ok (.getfield 618, 3) := by decide +kernel
theorem d_MO_quote_114 : decode b_MO_quote 114 = .ok (.ireturn, 1) := by decide +kernel
theorem d_MO_subject_0 : decode b_MO_subject 0 = .ok (.aload_n 0, 1) := by decide +kernel
theorem d_MO_subject_1 : decode b_MO_subject 1 = .ok (.iconst 0, 1) := by decide +kernel
theorem d_MO_subject_2 : decode b_MO_subject 2 = .ok (.putfield 220, 3) := by decide +kernel
theorem d_MO_subject_5 : decode b_MO_subject 5 = .ok (.aload_n 0, 1) := by decide +kernel
theorem d_MO_subject_6 : decode b_MO_subject 6 = .ok (.aload_n 0, 1) := by decide +kernel
theorem d_MO_subject_7 : decode b_MO_subject 7 = .ok (.getfield 223, 3) := by decide +kernel
theorem d_MO_subject_10 : decode b_MO_subject 10 = .ok (.putfield 510, 3) := by decide +kernel
theorem d_MO_subject_13 : decode b_MO_subject 13 = .ok (.iconst 0, 1) := by decide +kernel
theorem d_MO_subject_14 : decode b_MO_subject 14 = .ok (.istore_n 1, 1) := by decide +kernel
theorem d_MO_subject_15 : decode b_MO_subject 15 = .ok (.iload_n 1, 1) := by decide +kernel
theorem d_MO_subject_16 : decode b_MO_subject 16 = .ok (.aload_n 0, 1) := by decide +kernel
theorem d_MO_subject_17 : decode b_MO_subject 17 = .ok (.getfield 510, 3) := by decide +kernel
theorem d_MO_subject_20 : decode b_MO_subject 20 = .ok (.if_icmp .ge 21, 3) := by decide +kernel
theorem d_MO_subject_23 : decode b_MO_subject 23 = .ok (.aload_n 0, 1) := by decide +kernel
theorem d_MO_subject_24 : decode b_MO_subject 24 = .ok (.getfield 22, 3) := by decide +kernel
theorem d_MO_subject_27 : decode b_MO_subject 27 = .ok (.iload_n 1, 1) := by decide +kernel
theorem d_MO_subject_28 : decode b_MO_subject 28 = .ok (.aload_n 0, 1) := by decide +kernel
theorem d_MO_subject_29 : decode b_MO_subject 29 = .ok (.getfield 19, 3) := by decide +kernel
theorem d_MO_subject_32 : decode b_MO_subject 32 = .ok (.iload_n 1, 1) := by decide +kernel
theorem d_MO_subject_33 : decode b_MO_subject 33 = .ok (.iaload, 1) := by decide +kernel
theorem d_MO_subject_34 : decode b_MO_subject 34 = .ok (.iastore, 1) := by decide +kernel
theorem d_MO_subject_35 : decode b_MO_subject 35 = .ok (.iinc 1 1, 3) := by decide +kernel
theorem d_MO_subject_38 : decode b_MO_subject 38 = .ok (.goto (-23), 3) := by decide +kernel
theorem d_MO_subject_41 : decode b_MO_subject 41 = .ok (.aload_n 0, 1) := by decide +kernel
theorem d_MO_subject_42 : decode b_MO_subject 42 = .ok (.iconst 0, 1) := by decide +kernel
theorem d_MO_subject_43 : decode b_MO_subject 43 = .ok (.putfield 223, 3) := by decide +kernel
theorem d_MO_subject_46 : decode b_MO_subject 46 = .ok (.aload_n 0, 1) := by decide +kernel
theorem d_MO_subject_47 : decode b_MO_subject 47 = .ok (.getfield 510, 3) := by decide +kernel
theorem d_MO_subject_50 : decode b_MO_subject 50 = .ok (.ireturn, 1) := by decide +kernel
theorem d_MO_which_0 : decode b_MO_which 0 = .ok (.aload_n 0, 1) := by decide +kernel
theorem d_MO_which_1 : decode b_MO_which 1 = .ok (.iconst 0, 1) := by decide +kernel
theorem d_MO_which_2 : decode b_MO_which 2 = .ok (.putfield 220, 3) := by decide +kernel
theorem d_MO_which_5 : decode b_MO_which 5 = .ok (.iconst 0, 1) := by decide +kernel
theorem d_MO_which_6 : decode b_MO_which 6 = .ok (.istore_n 3, 1) := by decide +kernel
theorem d_MO_which_7 : decode b_MO_which 7 = .ok (.iconst 0, 1) := by decide +kernel
theorem d_MO_which_8 : decode b_MO_which 8 = .ok (.istore 4, 2) := by decide +kernel
theorem d_MO_which_10 : decode b_MO_which 10 = .ok (.iload 4, 2) := by decide +kernel
theorem d_MO_which_12 : decode b_MO_which 12 = .ok (.bipush 6, 2) := by decide +kernel
theorem d_MO_which_14 : decode b_MO_which 14 = .ok (.if_icmp .ge 125, 3) := by decide +kernel
theorem d_MO_which_17 : decode b_MO_which 17 = .ok (.iload_n 1, 1) := by decide +kernel
theorem d_MO_which_18 : decode b_MO_which 18 = .ok (.iload 4, 2) := by decide +kernel
theorem d_MO_which_20 : decode b_MO_which 20 = .ok (.ishr, 1) := by decide +kernel
theorem d_MO_which_21 : decode b_MO_which 21 = .ok (.iconst 1, 1) := by decide +kernel
theorem d_MO_which_22 : decode b_MO_which 22 = .ok (.iand, 1) := by decide +kernel
theorem d_MO_which_23 : decode b_MO_which 23 = .ok (.ifCond .eq 110, 3) := by decide +kernel
theorem d_MO_which_26 : decode b_MO_which 26 = .ok (.aload_n 0, 1) := by decide +kernel
theorem d_MO_which_27 : decode b_MO_which 27 = .ok (.getfield 109, 3) := by decide +kernel
theorem d_MO_which_30 : decode b_MO_which 30 = .ok (.iload 4, 2) := by decide +kernel
theorem d_MO_which_32 : decode b_MO_which 32 = .ok (.baload, 1) := by decide +kernel
theorem d_MO_which_33 : decode b_MO_which 33 = .ok (.ifCond .ne 6, 3) := by decide +kernel
theorem d_MO_which_36 : decode b_MO_which 36 = .ok (.goto 97, 3) := by decide +kernel
theorem d_MO_which_39 : decode b_MO_which 39 = .ok (.aload_n 0, 1) := by decide +kernel
theorem d_MO_which_40 : decode b_MO_which 40 = .ok (.aload_n 0, 1) := by decide +kernel
theorem d_MO_which_41 : decode b_MO_which 41 = .ok (.getfield 178, 3) := by decide +kernel
theorem d_MO_which_44 : decode b_MO_which 44 = .ok (.iload 4, 2) := by decide +kernel
theorem d_MO_which_46 : decode b_MO_which 46 = .ok (.aload_n 0, 1) := by decide +kernel
theorem d_MO_which_47 : decode b_MO_which 47 = .ok (.getfield 510, 3) := by decide +kernel
theorem d_MO_which_50 : decode b_MO_which 50 = .ok (.iconst 0, 1) := by decide +kernel
theorem d_MO_which_51 : decode b_MO_which 51 = .ok (.iload_n 2, 1) := by decide +kernel
theorem d_MO_which_52 : decode b_MO_which 52 = .ok (.invokevirtual 559, 3) := by decide +kernel
theorem d_MO_which_55 : decode b_MO_which 55 = .ok (.aload_n 0, 1) := by decide +kernel
theorem d_MO_which_56 : decode b_MO_which 56 = .ok (.getfield 178, 3) := by decide +kernel
theorem d_MO_which_59 : decode b_MO_which 59 = .ok (.iconst 0, 1) := by decide +kernel
theorem d_MO_which_60 : decode b_MO_which 60 = .ok (.aload_n 0, 1) := by decide +kernel
theorem d_MO_which_61 : decode b_MO_which 61 = .ok (.getfield 112, 3) := by decide +kernel
theorem d_MO_which_64 : decode b_MO_which 64 = .ok (.iload 4, 2) := by decide +kernel
theorem d_MO_which_66 : decode b_MO_which 66 = .ok (.iaload, 1) := by decide +kernel
theorem d_MO_which_67 : decode b_MO_which 67 = .ok (.invokestatic 528, 3) := by decide +kernel
theorem d_MO_which_70 : decode b_MO_which 70 = .ok (.istore 5, 2) := by decide +kernel
theorem d_MO_which_72 : decode b_MO_which 72 = .ok (.iconst 1, 1) := by decide +kernel
theorem d_MO_which_73 : decode b_MO_which 73 = .ok (.istore 6, 2) := by decide +kernel
theorem d_MO_which_75 : decode b_MO_which 75 = .ok (.iload 6, 2) := by decide +kernel
theorem d_MO_which_77 : decode b_MO_which 77 = .ok (.aload_n 0, 1) := by decide +kernel
theorem d_MO_which_78 : decode b_MO_which 78 = .ok (.getfield 510, 3) := by decide +kernel
theorem d_MO_which_81 : decode b_MO_which 81 = .ok (.if_icmp .gt 36, 3) := by decide +kernel
theorem d_MO_which_84 : decode b_MO_which 84 = .ok (.iload 5, 2) := by decide +kernel
theorem d_MO_which_86 : decode b_MO_which 86 = .ok (.ifCond .ne 31, 3) := by decide +kernel
theorem d_MO_which_89 : decode b_MO_which 89 = .ok (.iload_n 2, 1) := by decide +kernel
theorem d_MO_which_90 : decode b_MO_which 90 = .ok (.ifCond .ne 27, 3) := by decide +kernel
theorem d_MO_which_93 : decode b_MO_which 93 = .ok (.aload_n 0, 1) := by decide +kernel
theorem d_MO_which_94 : decode b_MO_which 94 = .ok (.getfield 178, 3) := by decide +kernel
theorem d_MO_which_97 : decode b_MO_which 97 = .ok (.iload 6, 2) := by decide +kernel
theorem d_MO_which_99 : decode b_MO_which 99 = .ok (.aload_n 0, 1) := by decide +kernel
theorem d_MO_which_100 : decode b_MO_which 100 = .ok (.getfield 112, 3) := by decide +kernel
theorem d_MO_which_103 : decode b_MO_which 103 = .ok (.iload 4, 2) := by decide +kernel
theorem d_MO_which_105 : decode b_MO_which 105 = .ok (.iaload, 1) := by decide +kernel
theorem d_MO_which_106 : decode b_MO_which 106 = .ok (.invokestatic 528, 3) := by decide +kernel
theorem d_MO_which_109 : decode b_MO_which 109 = .ok (.istore 5, 2) := by decide +kernel
theorem d_MO_which_111 : decode b_MO_which 111 = .ok (.iinc 6 1, 3) := by decide +kernel
theorem d_MO_which_114 : decode b_MO_which 114 = .ok (.goto (-39), 3) := by decide +kernel
theorem d_MO_which_117 : decode b_MO_which 117 = .ok (.iload 5, 2) := by decide +kernel
theorem d_MO_which_119 : decode b_MO_which 119 = .ok (.ifCond .eq 12, 3) := by decide +kernel
theorem d_MO_which_122 : decode b_MO_which 122 = .ok (.iload_n 3, 1) := by decide +kernel
theorem d_MO_which_123 : decode b_MO_which 123 = .ok (.iconst 1, 1) := by decide +kernel
theorem d_MO_which_124 : decode b_MO_which 124 = .ok (.iload 4, 2) := by decide +kernel
theorem d_MO_which_126 : decode b_MO_which 126 = .ok (.ishl, 1) := by decide +kernel
theorem d_MO_which_127 : decode b_MO_which 127 = .ok (.ior, 1) := by decide +kernel
theorem d_MO_which_128 : decode b_MO_which 128 = .ok (.goto 4, 3) := by decide +kernel
theorem d_MO_which_131 : decode b_MO_which 131 = .ok (.iload_n 3, 1) := by decide +kernel
theorem d_MO_which_132 : decode b_MO_which 132 = .ok (.istore_n 3, 1) := by decide +kernel
theorem d_MO_which_133 : decode b_MO_which 133 = .ok (.iinc 4 1, 3) := by decide +kernel
theorem d_MO_which_136 : decode b_MO_which 136 = .ok (.goto (-126), 3) := by decide +kernel
theorem d_MO_which_139 : decode b_MO_which 139 = .ok (.iload_n 3, 1) := by decide +kernel
theorem d_MO_which_140 : decode b_MO_which 140 = .ok (.ireturn, 1) := by decide +kernel
