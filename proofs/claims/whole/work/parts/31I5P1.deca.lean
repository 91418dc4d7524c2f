theorem d_OM_suits_0 : decode b_OM_suits 0 = .ok (.aload_n 1, 1) := by decide +kernel
theorem d_OM_suits_1 : decode b_OM_suits 1 = .ok (.getfield 37, 3) := by decide +kernel
theorem d_OM_suits_4 : decode b_OM_suits 4 = .ok (.ifCond .ne 20, 3) := by decide +kernel
theorem d_OM_suits_7 : decode b_OM_suits 7 = .ok (.aload_n 1, 1) := by decide +kernel
theorem d_OM_suits_8 : decode b_OM_suits 8 = .ok (.aload_n 0, 1) := by decide +kernel
theorem d_OM_suits_9 : decode b_OM_suits 9 = .ok (.aload_n 1, 1) := by decide +kernel
theorem d_OM_suits_10 : decode b_OM_suits 10 = .ok (.invokevirtual 43, 3) := by decide +kernel
theorem d_OM_suits_13 : decode b_OM_suits 13 = .ok (.ifCond .eq 7, 3) := by decide +kernel
theorem d_OM_suits_16 : decode b_OM_suits 16 = .ok (.iconst 1, 1) := by decide +kernel
theorem d_OM_suits_17 : decode b_OM_suits 17 = .ok (.goto 4, 3) := by decide +kernel
theorem d_OM_suits_20 : decode b_OM_suits 20 = .ok (.iconst 2, 1) := by decide +kernel
theorem d_OM_suits_21 : decode b_OM_suits 21 = .ok (.putfield 37, 3) := by decide +kernel
theorem d_OM_suits_24 : decode b_OM_suits 24 = .ok (.aload_n 1, 1) := by decide +kernel
theorem d_OM_suits_25 : decode b_OM_suits 25 = .ok (.getfield 37, 3) := by decide +kernel
theorem d_OM_suits_28 : decode b_OM_suits 28 = .ok (.iconst 1, 1) := by decide +kernel
theorem d_OM_suits_29 : decode b_OM_suits 29 = .ok (.if_icmp .ne 7, 3) := by decide +kernel
theorem d_OM_suits_32 : decode b_OM_suits 32 = .ok (.iconst 1, 1) := by decide +kernel
theorem d_OM_suits_33 : decode b_OM_suits 33 = .ok (.goto 4, 3) := by decide +kernel
theorem d_OM_suits_36 : decode b_OM_suits 36 = .ok (.iconst 0, 1) := by decide +kernel
theorem d_OM_suits_37 : decode b_OM_suits 37 = .ok (.ireturn, 1) := by decide +kernel
theorem d_PW_all_0 : decode b_PW_all 0 = .ok (.aload_n 0, 1) := by decide +kernel
theorem d_PW_all_1 : decode b_PW_all 1 = .ok (.iload_n 1, 1) := by decide +kernel
theorem d_PW_all_2 : decode b_PW_all 2 = .ok (.invokevirtual 148, 3) := by decide +kernel
theorem d_PW_all_5 : decode b_PW_all 5 = .ok (.astore_n 2, 1) := by decide +kernel
theorem d_PW_all_6 : decode b_PW_all 6 = .ok (.aload_n 2, 1) := by decide +kernel
theorem d_PW_all_7 : decode b_PW_all 7 = .ok (.ifnonnull 13, 3) := by decide +kernel
theorem d_PW_all_10 : decode b_PW_all 10 = .ok (.new 109, 3) := by decide +kernel
theorem d_PW_all_13 : decode b_PW_all 13 = .ok (.dup, 1) := by decide +kernel
theorem d_PW_all_14 : decode b_PW_all 14 = .ok (.ldc 187, 2) := by decide +kernel
theorem d_PW_all_16 : decode b_PW_all 16 = .ok (.invokespecial 113, 3) := by decide +kernel
theorem d_PW_all_19 : decode b_PW_all 19 = .ok (.athrow, 1) := by decide +kernel
theorem d_PW_all_20 : decode b_PW_all 20 = .ok (.aload_n 0, 1) := by decide +kernel
theorem d_PW_all_21 : decode b_PW_all 21 = .ok (.getfield 76, 3) := by decide +kernel
theorem d_PW_all_24 : decode b_PW_all 24 = .ok (.invokevirtual 120, 3) := by decide +kernel
theorem d_PW_all_27 : decode b_PW_all 27 = .ok (.iconst (-1), 1) := by decide +kernel
theorem d_PW_all_28 : decode b_PW_all 28 = .ok (.istore_n 3, 1) := by decide +kernel
theorem d_PW_all_29 : decode b_PW_all 29 = .ok (.aload_n 0, 1) := by decide +kernel
theorem d_PW_all_30 : decode b_PW_all 30 = .ok (.getfield 55, 3) := by decide +kernel
theorem d_PW_all_33 : decode b_PW_all 33 = .ok (.aload_n 2, 1) := by decide +kernel
theorem d_PW_all_34 : decode b_PW_all 34 = .ok (.aload_n 0, 1) := by decide +kernel
theorem d_PW_all_35 : decode b_PW_all 35 = .ok (.getfield 38, 3) := by decide +kernel
theorem d_PW_all_38 : decode b_PW_all 38 = .ok (.iconst 0, 1) := by decide +kernel
theorem d_PW_all_39 : decode b_PW_all 39 = .ok (.iconst 0, 1) := by decide +kernel
theorem d_PW_all_40 : decode b_PW_all 40 = .ok (.aload_n 0, 1) := by decide +kernel
theorem d_PW_all_41 : decode b_PW_all 41 = .ok (.getfield 42, 3) := by decide +kernel
theorem d_PW_all_44 : decode b_PW_all 44 = .ok (.invokevirtual 189, 3) := by decide +kernel
theorem d_PW_all_47 : decode b_PW_all 47 = .ok (.iconst 0, 1) := by decide +kernel
theorem d_PW_all_48 : decode b_PW_all 48 = .ok (.istore 4, 2) := by decide +kernel
theorem d_PW_all_50 : decode b_PW_all 50 = .ok (.iload 4, 2) := by decide +kernel
theorem d_PW_all_52 : decode b_PW_all 52 = .ok (.aload_n 0, 1) := by decide +kernel
theorem d_PW_all_53 : decode b_PW_all 53 = .ok (.getfield 38, 3) := by decide +kernel
theorem d_PW_all_56 : decode b_PW_all 56 = .ok (.getfield 164, 3) := by decide +kernel
theorem d_PW_all_59 : decode b_PW_all 59 = .ok (.if_icmp .gt 52, 3) := by decide +kernel
theorem d_PW_all_62 : decode b_PW_all 62 = .ok (.aload_n 0, 1) := by decide +kernel
theorem d_PW_all_63 : decode b_PW_all 63 = .ok (.iload_n 3, 1) := by decide +kernel
theorem d_PW_all_64 : decode b_PW_all 64 = .ok (.invokevirtual 193, 3) := by decide +kernel
theorem d_PW_all_67 : decode b_PW_all 67 = .ok (.ifCond .eq 44, 3) := by decide +kernel
theorem d_PW_all_70 : decode b_PW_all 70 = .ok (.aload_n 0, 1) := by decide +kernel
theorem d_PW_all_71 : decode b_PW_all 71 = .ok (.getfield 76, 3) := by decide +kernel
theorem d_PW_all_74 : decode b_PW_all 74 = .ok (.aload_n 0, 1) := by decide +kernel
theorem d_PW_all_75 : decode b_PW_all 75 = .ok (.getfield 42, 3) := by decide +kernel
theorem d_PW_all_78 : decode b_PW_all 78 = .ok (.iconst 0, 1) := by decide +kernel
theorem d_PW_all_79 : decode b_PW_all 79 = .ok (.iaload, 1) := by decide +kernel
theorem d_PW_all_80 : decode b_PW_all 80 = .ok (.invokevirtual 197, 3) := by decide +kernel
theorem d_PW_all_83 : decode b_PW_all 83 = .ok (.pop, 1) := by decide +kernel
theorem d_PW_all_84 : decode b_PW_all 84 = .ok (.aload_n 0, 1) := by decide +kernel
theorem d_PW_all_85 : decode b_PW_all 85 = .ok (.getfield 76, 3) := by decide +kernel
theorem d_PW_all_88 : decode b_PW_all 88 = .ok (.aload_n 0, 1) := by decide +kernel
theorem d_PW_all_89 : decode b_PW_all 89 = .ok (.getfield 42, 3) := by decide +kernel
theorem d_PW_all_92 : decode b_PW_all 92 = .ok (.iconst 1, 1) := by decide +kernel
theorem d_PW_all_93 : decode b_PW_all 93 = .ok (.iaload, 1) := by decide +kernel
theorem d_PW_all_94 : decode b_PW_all 94 = .ok (.invokevirtual 197, 3) := by decide +kernel
theorem d_PW_all_97 : decode b_PW_all 97 = .ok (.pop, 1) := by decide +kernel
theorem d_PW_all_98 : decode b_PW_all 98 = .ok (.aload_n 0, 1) := by decide +kernel
theorem d_PW_all_99 : decode b_PW_all 99 = .ok (.getfield 42, 3) := by decide +kernel
theorem d_PW_all_102 : decode b_PW_all 102 = .ok (.iconst 1, 1) := by decide +kernel
theorem d_PW_all_103 : decode b_PW_all 103 = .ok (.iaload, 1) := by decide +kernel
theorem d_PW_all_104 : decode b_PW_all 104 = .ok (.istore_n 3, 1) := by decide +kernel
theorem d_PW_all_105 : decode b_PW_all 105 = .ok (.iinc 4 1, 3) := by decide +kernel
theorem d_PW_all_108 : decode b_PW_all 108 = .ok (.goto (-58), 3) := by decide +kernel
theorem d_PW_all_111 : decode b_PW_all 111 = .ok (.aload_n 0, 1) := by decide +kernel
theorem d_PW_all_112 : decode b_PW_all 112 = .ok (.aload_n 2, 1) := by decide +kernel
theorem d_PW_all_113 : decode b_PW_all 113 = .ok (.getfield 152, 3) := by decide +kernel
theorem d_PW_all_116 : decode b_PW_all 116 = .ok (.aload_n 0, 1) := by decide +kernel
theorem d_PW_all_117 : decode b_PW_all 117 = .ok (.getfield 76, 3) := by decide +kernel
theorem d_PW_all_120 : decode b_PW_all 120 = .ok (.getfield 101, 3) := by decide +kernel
theorem d_PW_all_123 : decode b_PW_all 123 = .ok (.iconst 2, 1) := by decide +kernel
theorem d_PW_all_124 : decode b_PW_all 124 = .ok (.idiv, 1) := by decide +kernel
theorem d_PW_all_125 : decode b_PW_all 125 = .ok (.invokevirtual 175, 3) := by decide +kernel
theorem d_PW_all_128 : decode b_PW_all 128 = .ok (.aload_n 0, 1) := by decide +kernel
theorem d_PW_all_129 : decode b_PW_all 129 = .ok (.getfield 76, 3) := by decide +kernel
theorem d_PW_all_132 : decode b_PW_all 132 = .ok (.getfield 101, 3) := by decide +kernel
theorem d_PW_all_135 : decode b_PW_all 135 = .ok (.iconst 2, 1) := by decide +kernel
theorem d_PW_all_136 : decode b_PW_all 136 = .ok (.idiv, 1) := by decide +kernel
theorem d_PW_all_137 : decode b_PW_all 137 = .ok (.ireturn, 1) := by decide +kernel
theorem d_PW_hunt_0 : decode b_PW_hunt 0 = .ok (.aload_n 0, 1) := by decide +kernel
theorem d_PW_hunt_1 : decode b_PW_hunt 1 = .ok (.getfield 55, 3) := by decide +kernel
theorem d_PW_hunt_4 : decode b_PW_hunt 4 = .ok (.iload_n 1, 1) := by decide +kernel
theorem d_PW_hunt_5 : decode b_PW_hunt 5 = .ok (.iconst 0, 1) := by decide +kernel
theorem d_PW_hunt_6 : decode b_PW_hunt 6 = .ok (.invokestatic 213, 3) := by decide +kernel
theorem d_PW_hunt_9 : decode b_PW_hunt 9 = .ok (.invokevirtual 251, 3) := by decide +kernel
theorem d_PW_hunt_12 : decode b_PW_hunt 12 = .ok (.istore_n 2, 1) := by decide +kernel
theorem d_PW_hunt_13 : decode b_PW_hunt 13 = .ok (.iload_n 2, 1) := by decide +kernel
theorem d_PW_hunt_14 : decode b_PW_hunt 14 = .ok (.iconst (-1), 1) := by decide +kernel
theorem d_PW_hunt_15 : decode b_PW_hunt 15 = .ok (.if_icmp .eq 44, 3) := by decide +kernel
theorem d_PW_hunt_18 : decode b_PW_hunt 18 = .ok (.iload_n 2, 1) := by decide +kernel
theorem d_PW_hunt_19 : decode b_PW_hunt 19 = .ok (.iload_n 1, 1) := by decide +kernel
theorem d_PW_hunt_20 : decode b_PW_hunt 20 = .ok (.if_icmp .ne 39, 3) := by decide +kernel
theorem d_PW_hunt_23 : decode b_PW_hunt 23 = .ok (.aload_n 0, 1) := by decide +kernel
theorem d_PW_hunt_24 : decode b_PW_hunt 24 = .ok (.getfield 42, 3) := by decide +kernel
theorem d_PW_hunt_27 : decode b_PW_hunt 27 = .ok (.iconst 0, 1) := by decide +kernel
theorem d_PW_hunt_28 : decode b_PW_hunt 28 = .ok (.iaload, 1) := by decide +kernel
theorem d_PW_hunt_29 : decode b_PW_hunt 29 = .ok (.iload_n 1, 1) := by decide +kernel
theorem d_PW_hunt_30 : decode b_PW_hunt 30 = .ok (.if_icmp .ne 29, 3) := by decide +kernel
theorem d_PW_hunt_33 : decode b_PW_hunt 33 = .ok (.iload_n 1, 1) := by decide +kernel
theorem d_PW_hunt_34 : decode b_PW_hunt 34 = .ok (.aload_n 0, 1) := by decide +kernel
theorem d_PW_hunt_35 : decode b_PW_hunt 35 = .ok (.getfield 38, 3) := by decide +kernel
theorem d_PW_hunt_38 : decode b_PW_hunt 38 = .ok (.getfield 164, 3) := by decide +kernel
theorem d_PW_hunt_41 : decode b_PW_hunt 41 = .ok (.if_icmp .ge 16, 3) := by decide +kernel
theorem d_PW_hunt_44 : decode b_PW_hunt 44 = .ok (.aload_n 0, 1) := by decide +kernel
theorem d_PW_hunt_45 : decode b_PW_hunt 45 = .ok (.getfield 55, 3) := by decide +kernel
theorem d_PW_hunt_48 : decode b_PW_hunt 48 = .ok (.iload_n 1, 1) := by decide +kernel
theorem d_PW_hunt_49 : decode b_PW_hunt 49 = .ok (.iconst 1, 1) := by decide +kernel
theorem d_PW_hunt_50 : decode b_PW_hunt 50 = .ok (.iadd, 1) := by decide +kernel
theorem d_PW_hunt_51 : decode b_PW_hunt 51 = .ok (.invokevirtual 251, 3) := by decide +kernel
theorem d_PW_hunt_54 : decode b_PW_hunt 54 = .ok (.goto 4, 3) := by decide +kernel
theorem d_PW_hunt_57 : decode b_PW_hunt 57 = .ok (.iconst (-1), 1) := by decide +kernel
theorem d_PW_hunt_58 : decode b_PW_hunt 58 = .ok (.istore_n 2, 1) := by decide +kernel
theorem d_PW_hunt_59 : decode b_PW_hunt 59 = .ok (.iload_n 2, 1) := by decide +kernel
theorem d_PW_hunt_60 : decode b_PW_hunt 60 = .ok (.iconst (-1), 1) := by decide +kernel
theorem d_PW_hunt_61 : decode b_PW_hunt 61 = .ok (.if_icmp .eq 7, 3) := by decide +kernel
theorem d_PW_hunt_64 : decode b_PW_hunt 64 = .ok (.iconst 1, 1) := by decide +kernel
theorem d_PW_hunt_65 : decode b_PW_hunt 65 = .ok (.goto 4, 3) := by decide +kernel
theorem d_PW_hunt_68 : decode b_PW_hunt 68 = .ok (.iconst 0, 1) := by decide +kernel
theorem d_PW_hunt_69 : decode b_PW_hunt 69 = .ok (.ireturn, 1) := by decide +kernel
theorem d_PW_match_0 : decode b_PW_match 0 = .ok (.aload_n 0, 1) := by decide +kernel
theorem d_PW_match_1 : decode b_PW_match 1 = .ok (.iload_n 1, 1) := by decide +kernel
theorem d_PW_match_2 : decode b_PW_match 2 = .ok (.invokevirtual 148, 3) := by decide +kernel
theorem d_PW_match_5 : decode b_PW_match 5 = .ok (.astore 5, 2) := by decide +kernel
theorem d_PW_match_7 : decode b_PW_match 7 = .ok (.aload 5, 2) := by decide +kernel
theorem d_PW_match_9 : decode b_PW_match 9 = .ok (.ifnull 21, 3) := by decide +kernel
theorem d_PW_match_12 : decode b_PW_match 12 = .ok (.iload_n 2, 1) := by decide +kernel
theorem d_PW_match_13 : decode b_PW_match 13 = .ok (.ifCond .lt 17, 3) := by decide +kernel
theorem d_PW_match_16 : decode b_PW_match 16 = .ok (.iload_n 2, 1) := by decide +kernel
theorem d_PW_match_17 : decode b_PW_match 17 = .ok (.iconst 2, 1) := by decide +kernel
theorem d_PW_match_18 : decode b_PW_match 18 = .ok (.if_icmp .gt 12, 3) := by decide +kernel
theorem d_PW_match_21 : decode b_PW_match 21 = .ok (.iload_n 3, 1) := by decide +kernel
theorem d_PW_match_22 : decode b_PW_match 22 = .ok (.ifCond .lt 8, 3) := by decide +kernel
theorem d_PW_match_25 : decode b_PW_match 25 = .ok (.iload_n 3, 1) := by decide +kernel
theorem d_PW_match_26 : decode b_PW_match 26 = .ok (.iconst 4, 1) := by decide +kernel
theorem d_PW_match_27 : decode b_PW_match 27 = .ok (.if_icmp .le 13, 3) := by decide +kernel
theorem d_PW_match_30 : decode b_PW_match 30 = .ok (.new 109, 3) := by decide +kernel
theorem d_PW_match_33 : decode b_PW_match 33 = .ok (.dup, 1) := by decide +kernel
theorem d_PW_match_34 : decode b_PW_match 34 = .ok (.ldc 167, 2) := by decide +kernel
theorem d_PW_match_36 : decode b_PW_match 36 = .ok (.invokespecial 113, 3) := by decide +kernel
theorem d_PW_match_39 : decode b_PW_match 39 = .ok (.athrow, 1) := by decide +kernel
theorem d_PW_match_40 : decode b_PW_match 40 = .ok (.iload 4, 2) := by decide +kernel
theorem d_PW_match_42 : decode b_PW_match 42 = .ok (.ifCond .lt 15, 3) := by decide +kernel
theorem d_PW_match_45 : decode b_PW_match 45 = .ok (.iload 4, 2) := by decide +kernel
theorem d_PW_match_47 : decode b_PW_match 47 = .ok (.aload_n 0, 1) := by decide +kernel
theorem d_PW_match_48 : decode b_PW_match 48 = .ok (.getfield 38, 3) := by decide +kernel
theorem d_PW_match_51 : decode b_PW_match 51 = .ok (.getfield 164, 3) := by decide +kernel
theorem d_PW_match_54 : decode b_PW_match 54 = .ok (.if_icmp .le 13, 3) := by decide +kernel
theorem d_PW_match_57 : decode b_PW_match 57 = .ok (.new 109, 3) := by decide +kernel
theorem d_PW_match_60 : decode b_PW_match 60 = .ok (.dup, 1) := by decide +kernel
theorem d_PW_match_61 : decode b_PW_match 61 = .ok (.ldc 169, 2) := by decide +kernel
theorem d_PW_match_63 : decode b_PW_match 63 = .ok (.invokespecial 113, 3) := by decide +kernel
theorem d_PW_match_66 : decode b_PW_match 66 = .ok (.athrow, 1) := by decide +kernel
theorem d_PW_match_67 : decode b_PW_match 67 = .ok (.aload_n 0, 1) := by decide +kernel
theorem d_PW_match_68 : decode b_PW_match 68 = .ok (.aload 5, 2) := by decide +kernel
theorem d_PW_match_70 : decode b_PW_match 70 = .ok (.iload_n 2, 1) := by decide +kernel
theorem d_PW_match_71 : decode b_PW_match 71 = .ok (.iload_n 3, 1) := by decide +kernel
theorem d_PW_match_72 : decode b_PW_match 72 = .ok (.iload 4, 2) := by decide +kernel
theorem d_PW_match_74 : decode b_PW_match 74 = .ok (.invokevirtual 171, 3) := by decide +kernel
theorem d_PW_match_77 : decode b_PW_match 77 = .ok (.istore 6, 2) := by decide +kernel
theorem d_PW_match_79 : decode b_PW_match 79 = .ok (.aload_n 0, 1) := by decide +kernel
theorem d_PW_match_80 : decode b_PW_match 80 = .ok (.aload 5, 2) := by decide +kernel
theorem d_PW_match_82 : decode b_PW_match 82 = .ok (.getfield 152, 3) := by decide +kernel
theorem d_PW_match_85 : decode b_PW_match 85 = .ok (.iconst 1, 1) := by decide +kernel
theorem d_PW_match_86 : decode b_PW_match 86 = .ok (.invokevirtual 175, 3) := by decide +kernel
theorem d_PW_match_89 : decode b_PW_match 89 = .ok (.aload_n 0, 1) := by decide +kernel
theorem d_PW_match_90 : decode b_PW_match 90 = .ok (.getfield 73, 3) := by decide +kernel
theorem d_PW_match_93 : decode b_PW_match 93 = .ok (.iconst (-1), 1) := by decide +kernel
theorem d_PW_match_94 : decode b_PW_match 94 = .ok (.invokestatic 91, 3) := by decide +kernel
theorem d_PW_match_97 : decode b_PW_match 97 = .ok (.iload 6, 2) := by decide +kernel
theorem d_PW_match_99 : decode b_PW_match 99 = .ok (.iconst (-1), 1) := by decide +kernel
theorem d_PW_match_100 : decode b_PW_match 100 = .ok (.if_icmp .eq 21, 3) := by decide +kernel
theorem d_PW_match_103 : decode b_PW_match 103 = .ok (.aload_n 0, 1) := by decide +kernel
theorem d_PW_match_104 : decode b_PW_match 104 = .ok (.getfield 42, 3) := by decide +kernel
theorem d_PW_match_107 : decode b_PW_match 107 = .ok (.iconst 0, 1) := by decide +kernel
theorem d_PW_match_108 : decode b_PW_match 108 = .ok (.aload_n 0, 1) := by decide +kernel
theorem d_PW_match_109 : decode b_PW_match 109 = .ok (.getfield 73, 3) := by decide +kernel
theorem d_PW_match_112 : decode b_PW_match 112 = .ok (.iconst 0, 1) := by decide +kernel
theorem d_PW_match_113 : decode b_PW_match 113 = .ok (.aload 5, 2) := by decide +kernel
theorem d_PW_match_115 : decode b_PW_match 115 = .ok (.getfield 178, 3) := by decide +kernel
theorem d_PW_match_118 : decode b_PW_match 118 = .ok (.invokestatic 181, 3) := by decide +kernel
theorem d_PW_match_121 : decode b_PW_match 121 = .ok (.iload 6, 2) := by decide +kernel
theorem d_PW_match_123 : decode b_PW_match 123 = .ok (.ireturn, 1) := by decide +kernel
theorem d_PW_run_0 : decode b_PW_run 0 = .ok (.iload_n 3, 1) := by decide +kernel
theorem d_PW_run_1 : decode b_PW_run 1 = .ok (.iconst 1, 1) := by decide +kernel
theorem d_PW_run_2 : decode b_PW_run 2 = .ok (.if_icmp .ne 23, 3) := by decide +kernel
theorem d_PW_run_5 : decode b_PW_run 5 = .ok (.aload_n 0, 1) := by decide +kernel
theorem d_PW_run_6 : decode b_PW_run 6 = .ok (.getfield 48, 3) := by decide +kernel
theorem d_PW_run_9 : decode b_PW_run 9 = .ok (.aload_n 1, 1) := by decide +kernel
theorem d_PW_run_10 : decode b_PW_run 10 = .ok (.aload_n 0, 1) := by decide +kernel
theorem d_PW_run_11 : decode b_PW_run 11 = .ok (.getfield 38, 3) := by decide +kernel
theorem d_PW_run_14 : decode b_PW_run 14 = .ok (.iload_n 2, 1) := by decide +kernel
theorem d_PW_run_15 : decode b_PW_run 15 = .ok (.iload 4, 2) := by decide +kernel
theorem d_PW_run_17 : decode b_PW_run 17 = .ok (.aload_n 0, 1) := by decide +kernel
theorem d_PW_run_18 : decode b_PW_run 18 = .ok (.getfield 42, 3) := by decide +kernel
theorem d_PW_run_21 : decode b_PW_run 21 = .ok (.invokevirtual 243, 3) := by decide +kernel
theorem d_PW_run_24 : decode b_PW_run 24 = .ok (.ireturn, 1) := by decide +kernel
theorem d_PW_run_25 : decode b_PW_run 25 = .ok (.iload_n 3, 1) := by decide +kernel
theorem d_PW_run_26 : decode b_PW_run 26 = .ok (.iconst 3, 1) := by decide +kernel
theorem d_PW_run_27 : decode b_PW_run 27 = .ok (.if_icmp .ne 38, 3) := by decide +kernel
theorem d_PW_run_30 : decode b_PW_run 30 = .ok (.iload_n 2, 1) := by decide +kernel
theorem d_PW_run_31 : decode b_PW_run 31 = .ok (.ifCond .eq 34, 3) := by decide +kernel
theorem d_PW_run_34 : decode b_PW_run 34 = .ok (.aload_n 0, 1) := by decide +kernel
theorem d_PW_run_35 : decode b_PW_run 35 = .ok (.getfield 62, 3) := by decide +kernel
theorem d_PW_run_38 : decode b_PW_run 38 = .ok (.aload_n 1, 1) := by decide +kernel
theorem d_PW_run_39 : decode b_PW_run 39 = .ok (.invokevirtual 247, 3) := by decide +kernel
theorem d_PW_run_42 : decode b_PW_run 42 = .ok (.ifCond .eq 23, 3) := by decide +kernel
theorem d_PW_run_45 : decode b_PW_run 45 = .ok (.aload_n 0, 1) := by decide +kernel
theorem d_PW_run_46 : decode b_PW_run 46 = .ok (.getfield 62, 3) := by decide +kernel
theorem d_PW_run_49 : decode b_PW_run 49 = .ok (.aload_n 1, 1) := by decide +kernel
theorem d_PW_run_50 : decode b_PW_run 50 = .ok (.aload_n 0, 1) := by decide +kernel
theorem d_PW_run_51 : decode b_PW_run 51 = .ok (.getfield 38, 3) := by decide +kernel
theorem d_PW_run_54 : decode b_PW_run 54 = .ok (.iload_n 2, 1) := by decide +kernel
theorem d_PW_run_55 : decode b_PW_run 55 = .ok (.iload 4, 2) := by decide +kernel
theorem d_PW_run_57 : decode b_PW_run 57 = .ok (.aload_n 0, 1) := by decide +kernel
theorem d_PW_run_58 : decode b_PW_run 58 = .ok (.getfield 42, 3) := by decide +kernel
theorem d_PW_run_61 : decode b_PW_run 61 = .ok (.invokevirtual 250, 3) := by decide +kernel
theorem d_PW_run_64 : decode b_PW_run 64 = .ok (.ireturn, 1) := by decide +kernel
theorem d_PW_run_65 : decode b_PW_run 65 = .ok (.iload_n 3, 1) := by decide +kernel
theorem d_PW_run_66 : decode b_PW_run 66 = .ok (.iconst 4, 1) := by decide +kernel
theorem d_PW_run_67 : decode b_PW_run 67 = .ok (.if_icmp .ne 23, 3) := by decide +kernel
theorem d_PW_run_70 : decode b_PW_run 70 = .ok (.aload_n 0, 1) := by decide +kernel
theorem d_PW_run_71 : decode b_PW_run 71 = .ok (.getfield 69, 3) := by decide +kernel
theorem d_PW_run_74 : decode b_PW_run 74 = .ok (.aload_n 1, 1) := by decide +kernel
theorem d_PW_run_75 : decode b_PW_run 75 = .ok (.aload_n 0, 1) := by decide +kernel
theorem d_PW_run_76 : decode b_PW_run 76 = .ok (.getfield 38, 3) := by decide +kernel
theorem d_PW_run_79 : decode b_PW_run 79 = .ok (.iload_n 2, 1) := by decide +kernel
theorem d_PW_run_80 : decode b_PW_run 80 = .ok (.iload 4, 2) := by decide +kernel
theorem d_PW_run_82 : decode b_PW_run 82 = .ok (.invokevirtual 224, 3) := by decide +kernel
theorem d_PW_run_85 : decode b_PW_run 85 = .ok (.ifCond .ne 5, 3) := by decide +kernel
theorem d_PW_run_88 : decode b_PW_run 88 = .ok (.iconst (-1), 1) := by decide +kernel
theorem d_PW_run_89 : decode b_PW_run 89 = .ok (.ireturn, 1) := by decide +kernel
theorem d_PW_run_90 : decode b_PW_run 90 = .ok (.aload_n 0, 1) := by decide +kernel
theorem d_PW_run_91 : decode b_PW_run 91 = .ok (.getfield 55, 3) := by decide +kernel
theorem d_PW_run_94 : decode b_PW_run 94 = .ok (.aload_n 1, 1) := by decide +kernel
theorem d_PW_run_95 : decode b_PW_run 95 = .ok (.aload_n 0, 1) := by decide +kernel
theorem d_PW_run_96 : decode b_PW_run 96 = .ok (.getfield 38, 3) := by decide +kernel
theorem d_PW_run_99 : decode b_PW_run 99 = .ok (.iload_n 2, 1) := by decide +kernel
theorem d_PW_run_100 : decode b_PW_run 100 = .ok (.iload 4, 2) := by decide +kernel
theorem d_PW_run_102 : decode b_PW_run 102 = .ok (.aload_n 0, 1) := by decide +kernel
theorem d_PW_run_103 : decode b_PW_run 103 = .ok (.getfield 42, 3) := by decide +kernel
theorem d_PW_run_106 : decode b_PW_run 106 = .ok (.invokevirtual 189, 3) := by decide +kernel
theorem d_PW_run_109 : decode b_PW_run 109 = .ok (.aload_n 0, 1) := by decide +kernel
theorem d_PW_run_110 : decode b_PW_run 110 = .ok (.getfield 55, 3) := by decide +kernel
theorem d_PW_run_113 : decode b_PW_run 113 = .ok (.iload 4, 2) := by decide +kernel
theorem d_PW_run_115 : decode b_PW_run 115 = .ok (.invokevirtual 251, 3) := by decide +kernel
theorem d_PW_run_118 : decode b_PW_run 118 = .ok (.ireturn, 1) := by decide +kernel
theorem d_PW_settle_0 : decode b_PW_settle 0 = .ok (.ldc2_w 253, 3) := by decide +kernel
theorem d_PW_settle_3 : decode b_PW_settle 3 = .ok (.iload_n 1, 1) := by decide +kernel
theorem d_PW_settle_4 : decode b_PW_settle 4 = .ok (.bipush 20, 2) := by decide +kernel
theorem d_PW_settle_6 : decode b_PW_settle 6 = .ok (.iadd, 1) := by decide +kernel
theorem d_PW_settle_7 : decode b_PW_settle 7 = .ok (.i2l, 1) := by decide +kernel
theorem d_PW_settle_8 : decode b_PW_settle 8 = .ok (.lmul, 1) := by decide +kernel
theorem d_PW_settle_9 : decode b_PW_settle 9 = .ok (.aload_n 0, 1) := by decide +kernel
theorem d_PW_settle_10 : decode b_PW_settle 10 = .ok (.getfield 38, 3) := by decide +kernel
theorem d_PW_settle_13 : decode b_PW_settle 13 = .ok (.getfield 164, 3) := by decide +kernel
theorem d_PW_settle_16 : decode b_PW_settle 16 = .ok (.bipush 20, 2) := by decide +kernel
theorem d_PW_settle_18 : decode b_PW_settle 18 = .ok (.iadd, 1) := by decide +kernel
theorem d_PW_settle_19 : decode b_PW_settle 19 = .ok (.i2l, 1) := by decide +kernel
theorem d_PW_settle_20 : decode b_PW_settle 20 = .ok (.lmul, 1) := by decide +kernel
theorem d_PW_settle_21 : decode b_PW_settle 21 = .ok (.iload_n 2, 1) := by decide +kernel
theorem d_PW_settle_22 : decode b_PW_settle 22 = .ok (.iconst 1, 1) := by decide +kernel
theorem d_PW_settle_23 : decode b_PW_settle 23 = .ok (.iadd, 1) := by decide +kernel
theorem d_PW_settle_24 : decode b_PW_settle 24 = .ok (.i2l, 1) := by decide +kernel
theorem d_PW_settle_25 : decode b_PW_settle 25 = .ok (.lmul, 1) := by decide +kernel
theorem d_PW_settle_26 : decode b_PW_settle 26 = .ok (.lstore_n 3, 1) := by decide +kernel
theorem d_PW_settle_27 : decode b_PW_settle 27 = .ok (.aload_n 0, 1) := by decide +kernel
theorem d_PW_settle_28 : decode b_PW_settle 28 = .ok (.getfield 48, 3) := by decide +kernel
theorem d_PW_settle_31 : decode b_PW_settle 31 = .ok (.getfield 255, 3) := by decide +kernel
theorem d_PW_settle_34 : decode b_PW_settle 34 = .ok (.aload_n 0, 1) := by decide +kernel
theorem d_PW_settle_35 : decode b_PW_settle 35 = .ok (.getfield 55, 3) := by decide +kernel
theorem d_PW_settle_38 : decode b_PW_settle 38 = .ok (.getfield 259, 3) := by decide +kernel
theorem d_PW_settle_41 : decode b_PW_settle 41 = .ok (.ladd, 1) := by decide +kernel
theorem d_PW_settle_42 : decode b_PW_settle 42 = .ok (.aload_n 0, 1) := by decide +kernel
theorem d_PW_settle_43 : decode b_PW_settle 43 = .ok (.getfield 62, 3) := by decide +kernel
theorem d_PW_settle_46 : decode b_PW_settle 46 = .ok (.getfield 260, 3) := by decide +kernel
theorem d_PW_settle_49 : decode b_PW_settle 49 = .ok (.ladd, 1) := by decide +kernel
theorem d_PW_settle_50 : decode b_PW_settle 50 = .ok (.aload_n 0, 1) := by decide +kernel
theorem d_PW_settle_51 : decode b_PW_settle 51 = .ok (.getfield 69, 3) := by decide +kernel
theorem d_PW_settle_54 : decode b_PW_settle 54 = .ok (.getfield 261, 3) := by decide +kernel
theorem d_PW_settle_57 : decode b_PW_settle 57 = .ok (.ladd, 1) := by decide +kernel
theorem d_PW_settle_58 : decode b_PW_settle 58 = .ok (.lstore 5, 2) := by decide +kernel
theorem d_PW_settle_60 : decode b_PW_settle 60 = .ok (.lload 5, 2) := by decide +kernel
theorem d_PW_settle_62 : decode b_PW_settle 62 = .ok (.lload_n 3, 1) := by decide +kernel
theorem d_PW_settle_63 : decode b_PW_settle 63 = .ok (.lcmp, 1) := by decide +kernel
theorem d_PW_settle_64 : decode b_PW_settle 64 = .ok (.ifCond .le 13, 3) := by decide +kernel
theorem d_PW_settle_67 : decode b_PW_settle 67 = .ok (.aload_n 0, 1) := by decide +kernel
theorem d_PW_settle_68 : decode b_PW_settle 68 = .ok (.dup, 1) := by decide +kernel
theorem d_PW_settle_69 : decode b_PW_settle 69 = .ok (.getfield 240, 3) := by decide +kernel
theorem d_PW_settle_72 : decode b_PW_settle 72 = .ok (.iconst 1, 1) := by decide +kernel
theorem d_PW_settle_73 : decode b_PW_settle 73 = .ok (.iadd, 1) := by decide +kernel
theorem d_PW_settle_74 : decode b_PW_settle 74 = .ok (.putfield 240, 3) := by decide +kernel
theorem d_PW_settle_77 : decode b_PW_settle 77 = .ok (.aload_n 0, 1) := by decide +kernel
theorem d_PW_settle_78 : decode b_PW_settle 78 = .ok (.getfield 48, 3) := by decide +kernel
theorem d_PW_settle_81 : decode b_PW_settle 81 = .ok (.lconst 0, 1) := by decide +kernel
theorem d_PW_settle_82 : decode b_PW_settle 82 = .ok (.putfield 255, 3) := by decide +kernel
theorem d_PW_settle_85 : decode b_PW_settle 85 = .ok (.aload_n 0, 1) := by decide +kernel
theorem d_PW_settle_86 : decode b_PW_settle 86 = .ok (.getfield 55, 3) := by decide +kernel
theorem d_PW_settle_89 : decode b_PW_settle 89 = .ok (.lconst 0, 1) := by decide +kernel
theorem d_PW_settle_90 : decode b_PW_settle 90 = .ok (.putfield 259, 3) := by decide +kernel
theorem d_PW_settle_93 : decode b_PW_settle 93 = .ok (.aload_n 0, 1) := by decide +kernel
theorem d_PW_settle_94 : decode b_PW_settle 94 = .ok (.getfield 62, 3) := by decide +kernel
theorem d_PW_settle_97 : decode b_PW_settle 97 = .ok (.lconst 0, 1) := by decide +kernel
theorem d_PW_settle_98 : decode b_PW_settle 98 = .ok (.putfield 260, 3) := by decide +kernel
theorem d_PW_settle_101 : decode b_PW_settle 101 = .ok (.aload_n 0, 1) := by decide +kernel
theorem d_PW_settle_102 : decode b_PW_settle 102 = .ok (.getfield 69, 3) := by decide +kernel
theorem d_PW_settle_105 : decode b_PW_settle 105 = .ok (.lconst 0, 1) := by decide +kernel
theorem d_PW_settle_106 : decode b_PW_settle 106 = .ok (.putfield 261, 3) := by decide +kernel
theorem d_PW_settle_109 : decode b_PW_settle 109 = .ok (.return_, 1) := by decide +kernel
theorem d_PW_split_0 : decode b_PW_split 0 = .ok (.aload_n 0, 1) := by decide +kernel
theorem d_PW_split_1 : decode b_PW_split 1 = .ok (.iload_n 1, 1) := by decide +kernel
theorem d_PW_split_2 : decode b_PW_split 2 = .ok (.invokevirtual 148, 3) := by decide +kernel
theorem d_PW_split_5 : decode b_PW_split 5 = .ok (.astore_n 2, 1) := by decide +kernel
theorem d_PW_split_6 : decode b_PW_split 6 = .ok (.aload_n 2, 1) := by decide +kernel
theorem d_PW_split_7 : decode b_PW_split 7 = .ok (.ifnonnull 13, 3) := by decide +kernel
theorem d_PW_split_10 : decode b_PW_split 10 = .ok (.new 109, 3) := by decide +kernel
theorem d_PW_split_13 : decode b_PW_split 13 = .ok (.dup, 1) := by decide +kernel
theorem d_PW_split_14 : decode b_PW_split 14 = .ok (.ldc 187, 2) := by decide +kernel
theorem d_PW_split_16 : decode b_PW_split 16 = .ok (.invokespecial 113, 3) := by decide +kernel
theorem d_PW_split_19 : decode b_PW_split 19 = .ok (.athrow, 1) := by decide +kernel
theorem d_PW_split_20 : decode b_PW_split 20 = .ok (.aload_n 0, 1) := by decide +kernel
theorem d_PW_split_21 : decode b_PW_split 21 = .ok (.getfield 79, 3) := by decide +kernel
theorem d_PW_split_24 : decode b_PW_split 24 = .ok (.invokevirtual 120, 3) := by decide +kernel
theorem d_PW_split_27 : decode b_PW_split 27 = .ok (.aload_n 0, 1) := by decide +kernel
theorem d_PW_split_28 : decode b_PW_split 28 = .ok (.getfield 79, 3) := by decide +kernel
theorem d_PW_split_31 : decode b_PW_split 31 = .ok (.iconst 0, 1) := by decide +kernel
theorem d_PW_split_32 : decode b_PW_split 32 = .ok (.invokevirtual 197, 3) := by decide +kernel
theorem d_PW_split_35 : decode b_PW_split 35 = .ok (.pop, 1) := by decide +kernel
theorem d_PW_split_36 : decode b_PW_split 36 = .ok (.iconst (-1), 1) := by decide +kernel
theorem d_PW_split_37 : decode b_PW_split 37 = .ok (.istore_n 3, 1) := by decide +kernel
theorem d_PW_split_38 : decode b_PW_split 38 = .ok (.iconst 0, 1) := by decide +kernel
theorem d_PW_split_39 : decode b_PW_split 39 = .ok (.istore 4, 2) := by decide +kernel
theorem d_PW_split_41 : decode b_PW_split 41 = .ok (.aload_n 0, 1) := by decide +kernel
theorem d_PW_split_42 : decode b_PW_split 42 = .ok (.getfield 55, 3) := by decide +kernel
theorem d_PW_split_45 : decode b_PW_split 45 = .ok (.aload_n 2, 1) := by decide +kernel
theorem d_PW_split_46 : decode b_PW_split 46 = .ok (.aload_n 0, 1) := by decide +kernel
theorem d_PW_split_47 : decode b_PW_split 47 = .ok (.getfield 38, 3) := by decide +kernel
theorem d_PW_split_50 : decode b_PW_split 50 = .ok (.iconst 0, 1) := by decide +kernel
theorem d_PW_split_51 : decode b_PW_split 51 = .ok (.iconst 0, 1) := by decide +kernel
theorem d_PW_split_52 : decode b_PW_split 52 = .ok (.aload_n 0, 1) := by decide +kernel
theorem d_PW_split_53 : decode b_PW_split 53 = .ok (.getfield 42, 3) := by decide +kernel
theorem d_PW_split_56 : decode b_PW_split 56 = .ok (.invokevirtual 189, 3) := by decide +kernel
theorem d_PW_split_59 : decode b_PW_split 59 = .ok (.iconst 0, 1) := by decide +kernel
theorem d_PW_split_60 : decode b_PW_split 60 = .ok (.istore 5, 2) := by decide +kernel
theorem d_PW_split_62 : decode b_PW_split 62 = .ok (.iload 5, 2) := by decide +kernel
theorem d_PW_split_64 : decode b_PW_split 64 = .ok (.aload_n 0, 1) := by decide +kernel
theorem d_PW_split_65 : decode b_PW_split 65 = .ok (.getfield 38, 3) := by decide +kernel
theorem d_PW_split_68 : decode b_PW_split 68 = .ok (.getfield 164, 3) := by decide +kernel
theorem d_PW_split_71 : decode b_PW_split 71 = .ok (.if_icmp .gt 107, 3) := by decide +kernel
theorem d_PW_split_74 : decode b_PW_split 74 = .ok (.aload_n 0, 1) := by decide +kernel
theorem d_PW_split_75 : decode b_PW_split 75 = .ok (.iload_n 3, 1) := by decide +kernel
theorem d_PW_split_76 : decode b_PW_split 76 = .ok (.invokevirtual 193, 3) := by decide +kernel
theorem d_PW_split_79 : decode b_PW_split 79 = .ok (.ifCond .eq 99, 3) := by decide +kernel
theorem d_PW_split_82 : decode b_PW_split 82 = .ok (.aload_n 0, 1) := by decide +kernel
theorem d_PW_split_83 : decode b_PW_split 83 = .ok (.getfield 42, 3) := by decide +kernel
theorem d_PW_split_86 : decode b_PW_split 86 = .ok (.iconst 1, 1) := by decide +kernel
theorem d_PW_split_87 : decode b_PW_split 87 = .ok (.iaload, 1) := by decide +kernel
theorem d_PW_split_88 : decode b_PW_split 88 = .ok (.istore_n 3, 1) := by decide +kernel
theorem d_PW_split_89 : decode b_PW_split 89 = .ok (.iinc 4 1, 3) := by decide +kernel
theorem d_PW_split_92 : decode b_PW_split 92 = .ok (.aload_n 0, 1) := by decide +kernel
theorem d_PW_split_93 : decode b_PW_split 93 = .ok (.getfield 42, 3) := by decide +kernel
theorem d_PW_split_96 : decode b_PW_split 96 = .ok (.iconst 0, 1) := by decide +kernel
theorem d_PW_split_97 : decode b_PW_split 97 = .ok (.iaload, 1) := by decide +kernel
theorem d_PW_split_98 : decode b_PW_split 98 = .ok (.aload_n 0, 1) := by decide +kernel
theorem d_PW_split_99 : decode b_PW_split 99 = .ok (.getfield 42, 3) := by decide +kernel
theorem d_PW_split_102 : decode b_PW_split 102 = .ok (.iconst 1, 1) := by decide +kernel
theorem d_PW_split_103 : decode b_PW_split 103 = .ok (.iaload, 1) := by decide +kernel
theorem d_PW_split_104 : decode b_PW_split 104 = .ok (.if_icmp .lt 28, 3) := by decide +kernel
theorem d_PW_split_107 : decode b_PW_split 107 = .ok (.aload_n 0, 1) := by decide +kernel
theorem d_PW_split_108 : decode b_PW_split 108 = .ok (.getfield 42, 3) := by decide +kernel
theorem d_PW_split_111 : decode b_PW_split 111 = .ok (.iconst 0, 1) := by decide +kernel
theorem d_PW_split_112 : decode b_PW_split 112 = .ok (.iaload, 1) := by decide +kernel
theorem d_PW_split_113 : decode b_PW_split 113 = .ok (.ifCond .le 23, 3) := by decide +kernel
theorem d_PW_split_116 : decode b_PW_split 116 = .ok (.aload_n 0, 1) := by decide +kernel
theorem d_PW_split_117 : decode b_PW_split 117 = .ok (.getfield 42, 3) := by decide +kernel
theorem d_PW_split_120 : decode b_PW_split 120 = .ok (.iconst 0, 1) := by decide +kernel
theorem d_PW_split_121 : decode b_PW_split 121 = .ok (.iaload, 1) := by decide +kernel
theorem d_PW_split_122 : decode b_PW_split 122 = .ok (.aload_n 0, 1) := by decide +kernel
theorem d_PW_split_123 : decode b_PW_split 123 = .ok (.getfield 38, 3) := by decide +kernel
theorem d_PW_split_126 : decode b_PW_split 126 = .ok (.getfield 164, 3) := by decide +kernel
theorem d_PW_split_129 : decode b_PW_split 129 = .ok (.if_icmp .ge 7, 3) := by decide +kernel
theorem d_PW_split_132 : decode b_PW_split 132 = .ok (.iconst 1, 1) := by decide +kernel
theorem d_PW_split_133 : decode b_PW_split 133 = .ok (.goto 4, 3) := by decide +kernel
theorem d_PW_split_136 : decode b_PW_split 136 = .ok (.iconst 0, 1) := by decide +kernel
theorem d_PW_split_137 : decode b_PW_split 137 = .ok (.istore 6, 2) := by decide +kernel
theorem d_PW_split_139 : decode b_PW_split 139 = .ok (.iload 6, 2) := by decide +kernel
theorem d_PW_split_141 : decode b_PW_split 141 = .ok (.ifCond .eq 31, 3) := by decide +kernel
theorem d_PW_split_144 : decode b_PW_split 144 = .ok (.aload_n 0, 1) := by decide +kernel
theorem d_PW_split_145 : decode b_PW_split 145 = .ok (.getfield 79, 3) := by decide +kernel
theorem d_PW_split_148 : decode b_PW_split 148 = .ok (.aload_n 0, 1) := by decide +kernel
theorem d_PW_split_149 : decode b_PW_split 149 = .ok (.getfield 42, 3) := by decide +kernel
theorem d_PW_split_152 : decode b_PW_split 152 = .ok (.iconst 0, 1) := by decide +kernel
theorem d_PW_split_153 : decode b_PW_split 153 = .ok (.iaload, 1) := by decide +kernel
theorem d_PW_split_154 : decode b_PW_split 154 = .ok (.invokevirtual 197, 3) := by decide +kernel
theorem d_PW_split_157 : decode b_PW_split 157 = .ok (.pop, 1) := by decide +kernel
theorem d_PW_split_158 : decode b_PW_split 158 = .ok (.aload_n 0, 1) := by decide +kernel
theorem d_PW_split_159 : decode b_PW_split 159 = .ok (.getfield 79, 3) := by decide +kernel
theorem d_PW_split_162 : decode b_PW_split 162 = .ok (.aload_n 0, 1) := by decide +kernel
theorem d_PW_split_163 : decode b_PW_split 163 = .ok (.getfield 42, 3) := by decide +kernel
theorem d_PW_split_166 : decode b_PW_split 166 = .ok (.iconst 1, 1) := by decide +kernel
theorem d_PW_split_167 : decode b_PW_split 167 = .ok (.iaload, 1) := by decide +kernel
theorem d_PW_split_168 : decode b_PW_split 168 = .ok (.invokevirtual 197, 3) := by decide +kernel
theorem d_PW_split_171 : decode b_PW_split 171 = .ok (.pop, 1) := by decide +kernel
theorem d_PW_split_172 : decode b_PW_split 172 = .ok (.iinc 5 1, 3) := by decide +kernel
theorem d_PW_split_175 : decode b_PW_split 175 = .ok (.goto (-113), 3) := by decide +kernel
theorem d_PW_split_178 : decode b_PW_split 178 = .ok (.aload_n 0, 1) := by decide +kernel
theorem d_PW_split_179 : decode b_PW_split 179 = .ok (.getfield 79, 3) := by decide +kernel
theorem d_PW_split_182 : decode b_PW_split 182 = .ok (.aload_n 0, 1) := by decide +kernel
theorem d_PW_split_183 : decode b_PW_split 183 = .ok (.getfield 38, 3) := by decide +kernel
theorem d_PW_split_186 : decode b_PW_split 186 = .ok (.getfield 164, 3) := by decide +kernel
theorem d_PW_split_189 : decode b_PW_split 189 = .ok (.invokevirtual 197, 3) := by decide +kernel
theorem d_PW_split_192 : decode b_PW_split 192 = .ok (.pop, 1) := by decide +kernel
theorem d_PW_split_193 : decode b_PW_split 193 = .ok (.aload_n 0, 1) := by decide +kernel
theorem d_PW_split_194 : decode b_PW_split 194 = .ok (.aload_n 2, 1) := by decide +kernel
theorem d_PW_split_195 : decode b_PW_split 195 = .ok (.getfield 152, 3) := by decide +kernel
theorem d_PW_split_198 : decode b_PW_split 198 = .ok (.iload 4, 2) := by decide +kernel
theorem d_PW_split_200 : decode b_PW_split 200 = .ok (.invokevirtual 175, 3) := by decide +kernel
theorem d_PW_split_203 : decode b_PW_split 203 = .ok (.aload_n 0, 1) := by decide +kernel
theorem d_PW_split_204 : decode b_PW_split 204 = .ok (.getfield 79, 3) := by decide +kernel
theorem d_PW_split_207 : decode b_PW_split 207 = .ok (.getfield 101, 3) := by decide +kernel
theorem d_PW_split_210 : decode b_PW_split 210 = .ok (.iconst 2, 1) := by decide +kernel
theorem d_PW_split_211 : decode b_PW_split 211 = .ok (.idiv, 1) := by decide +kernel
theorem d_PW_split_212 : decode b_PW_split 212 = .ok (.ireturn, 1) := by decide +kernel
