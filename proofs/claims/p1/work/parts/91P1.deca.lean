theorem d_OM_suits_0 : decode b_OM_suits 0 = .ok (.aload_n 1, 1) := by decide +kernel
theorem d_OM_suits_1 : decode b_OM_suits 1 = .ok (.getfield 37, 3) := by decide +kernel
theorem d_OM_suits_4 : decode b_OM_suits 4 = .ok (.ifCond .ne 20, 3) := by decide +kernel
theorem d_OM_suits_7 : decode b_OM_suits 7 = .ok (.aload_n 1, 1) := by decide +kernel
theorem d_OM_suits_8 : decode b_OM_suits 8 = .ok (.aload_n 0, 1) := by decide +kernel
theorem d_OM_suits_9 : decode b_OM_suits 9 = .ok (.aload_n 1, 1) := by decide +kernel
theorem d_OM_suits_10 : decode b_OM_suits 10 = .ok (.invokevirtual 43, 3) := by decide +kernel
theorem d_OM_suits_13 : decode b_OM_suits 13 = .ok (.ifCond .eq 7, 3) := by decide +kernel
theorem d_OM_suits_16 : decode b_OM_suits 16 = .ok (.iconst 1, 1) := by decide +kernel
theorem d_OM_suits_17 : decode b_OM_suits 17 = .ok (.goto 4, 3) := by decide +kernel
theorem d_OM_suits_20 : decode b_OM_suits 20 = .ok (.iconst 2, 1) := by decide +kernel
theorem d_OM_suits_21 : decode b_OM_suits 21 = .ok (.putfield 37, 3) := by decide +kernel
theorem d_OM_suits_24 : decode b_OM_suits 24 = .ok (.aload_n 1, 1) := by decide +kernel
theorem d_OM_suits_25 : decode b_OM_suits 25 = .ok (.getfield 37, 3) := by decide +kernel
theorem d_OM_suits_28 : decode b_OM_suits 28 = .ok (.iconst 1, 1) := by decide +kernel
theorem d_OM_suits_29 : decode b_OM_suits 29 = .ok (.if_icmp .ne 7, 3) := by decide +kernel
theorem d_OM_suits_32 : decode b_OM_suits 32 = .ok (.iconst 1, 1) := by decide +kernel
theorem d_OM_suits_33 : decode b_OM_suits 33 = .ok (.goto 4, 3) := by decide +kernel
theorem d_OM_suits_36 : decode b_OM_suits 36 = .ok (.iconst 0, 1) := by decide +kernel
theorem d_OM_suits_37 : decode b_OM_suits 37 = .ok (.ireturn, 1) := by decide +kernel
theorem d_PW_hunt_0 : decode b_PW_hunt 0 = .ok (.aload_n 0, 1) := by decide +kernel
theorem d_PW_hunt_1 : decode b_PW_hunt 1 = .ok (.getfield 55, 3) := by decide +kernel
theorem d_PW_hunt_4 : decode b_PW_hunt 4 = .ok (.iload_n 1, 1) := by decide +kernel
theorem d_PW_hunt_5 : decode b_PW_hunt 5 = .ok (.iconst 0, 1) := by decide +kernel
theorem d_PW_hunt_6 : decode b_PW_hunt 6 = .ok (.invokestatic 213, 3) := by decide +kernel
theorem d_PW_hunt_9 : decode b_PW_hunt 9 = .ok (.invokevirtual 251, 3) := by decide +kernel
theorem d_PW_hunt_12 : decode b_PW_hunt 12 = .ok (.istore_n 2, 1) := by decide +kernel
theorem d_PW_hunt_13 : decode b_PW_hunt 13 = .ok (.iload_n 2, 1) := by decide +kernel
theorem d_PW_hunt_14 : decode b_PW_hunt 14 = .ok (.iconst (-1), 1) := by decide +kernel
theorem d_PW_hunt_15 : decode b_PW_hunt 15 = .ok (.if_icmp .eq 44, 3) := by decide +kernel
theorem d_PW_hunt_18 : decode b_PW_hunt 18 = .ok (.iload_n 2, 1) := by decide +kernel
theorem d_PW_hunt_19 : decode b_PW_hunt 19 = .ok (.iload_n 1, 1) := by decide +kernel
theorem d_PW_hunt_20 : decode b_PW_hunt 20 = .ok (.if_icmp .ne 39, 3) := by decide +kernel
theorem d_PW_hunt_23 : decode b_PW_hunt 23 = .ok (.aload_n 0, 1) := by decide +kernel
theorem d_PW_hunt_24 : decode b_PW_hunt 24 = .ok (.getfield 42, 3) := by decide +kernel
theorem d_PW_hunt_27 : decode b_PW_hunt 27 = .ok (.iconst 0, 1) := by decide +kernel
theorem d_PW_hunt_28 : decode b_PW_hunt 28 = .ok (.iaload, 1) := by decide +kernel
theorem d_PW_hunt_29 : decode b_PW_hunt 29 = .ok (.iload_n 1, 1) := by decide +kernel
theorem d_PW_hunt_30 : decode b_PW_hunt 30 = .ok (.if_icmp .ne 29, 3) := by decide +kernel
theorem d_PW_hunt_33 : decode b_PW_hunt 33 = .ok (.iload_n 1, 1) := by decide +kernel
theorem d_PW_hunt_34 : decode b_PW_hunt 34 = .ok (.aload_n 0, 1) := by decide +kernel
theorem d_PW_hunt_35 : decode b_PW_hunt 35 = .ok (.getfield 38, 3) := by decide +kernel
theorem d_PW_hunt_38 : decode b_PW_hunt 38 = .ok (.getfield 164, 3) := by decide +kernel
theorem d_PW_hunt_41 : decode b_PW_hunt 41 = .ok (.if_icmp .ge 16, 3) := by decide +kernel
theorem d_PW_hunt_44 : decode b_PW_hunt 44 = .ok (.aload_n 0, 1) := by decide +kernel
theorem d_PW_hunt_45 : decode b_PW_hunt 45 = .ok (.getfield 55, 3) := by decide +kernel
theorem d_PW_hunt_48 : decode b_PW_hunt 48 = .ok (.iload_n 1, 1) := by decide +kernel
theorem d_PW_hunt_49 : decode b_PW_hunt 49 = .ok (.iconst 1, 1) := by decide +kernel
theorem d_PW_hunt_50 : decode b_PW_hunt 50 = .ok (.iadd, 1) := by decide +kernel
theorem d_PW_hunt_51 : decode b_PW_hunt 51 = .ok (.invokevirtual 251, 3) := by decide +kernel
theorem d_PW_hunt_54 : decode b_PW_hunt 54 = .ok (.goto 4, 3) := by decide +kernel
theorem d_PW_hunt_57 : decode b_PW_hunt 57 = .ok (.iconst (-1), 1) := by decide +kernel
theorem d_PW_hunt_58 : decode b_PW_hunt 58 = .ok (.istore_n 2, 1) := by decide +kernel
theorem d_PW_hunt_59 : decode b_PW_hunt 59 = .ok (.iload_n 2, 1) := by decide +kernel
theorem d_PW_hunt_60 : decode b_PW_hunt 60 = .ok (.iconst (-1), 1) := by decide +kernel
theorem d_PW_hunt_61 : decode b_PW_hunt 61 = .ok (.if_icmp .eq 7, 3) := by decide +kernel
theorem d_PW_hunt_64 : decode b_PW_hunt 64 = .ok (.iconst 1, 1) := by decide +kernel
theorem d_PW_hunt_65 : decode b_PW_hunt 65 = .ok (.goto 4, 3) := by decide +kernel
theorem d_PW_hunt_68 : decode b_PW_hunt 68 = .ok (.iconst 0, 1) := by decide +kernel
theorem d_PW_hunt_69 : decode b_PW_hunt 69 = .ok (.ireturn, 1) := by decide +kernel
theorem d_PW_run_0 : decode b_PW_run 0 = .ok (.iload_n 3, 1) := by decide +kernel
theorem d_PW_run_1 : decode b_PW_run 1 = .ok (.iconst 1, 1) := by decide +kernel
theorem d_PW_run_2 : decode b_PW_run 2 = .ok (.if_icmp .ne 23, 3) := by decide +kernel
theorem d_PW_run_5 : decode b_PW_run 5 = .ok (.aload_n 0, 1) := by decide +kernel
theorem d_PW_run_6 : decode b_PW_run 6 = .ok (.getfield 48, 3) := by decide +kernel
theorem d_PW_run_9 : decode b_PW_run 9 = .ok (.aload_n 1, 1) := by decide +kernel
theorem d_PW_run_10 : decode b_PW_run 10 = .ok (.aload_n 0, 1) := by decide +kernel
theorem d_PW_run_11 : decode b_PW_run 11 = .ok (.getfield 38, 3) := by decide +kernel
theorem d_PW_run_14 : decode b_PW_run 14 = .ok (.iload_n 2, 1) := by decide +kernel
theorem d_PW_run_15 : decode b_PW_run 15 = .ok (.iload 4, 2) := by decide +kernel
theorem d_PW_run_17 : decode b_PW_run 17 = .ok (.aload_n 0, 1) := by decide +kernel
theorem d_PW_run_18 : decode b_PW_run 18 = .ok (.getfield 42, 3) := by decide +kernel
theorem d_PW_run_21 : decode b_PW_run 21 = .ok (.invokevirtual 243, 3) := by decide +kernel
theorem d_PW_run_24 : decode b_PW_run 24 = .ok (.ireturn, 1) := by decide +kernel
theorem d_PW_run_25 : decode b_PW_run 25 = .ok (.iload_n 3, 1) := by decide +kernel
theorem d_PW_run_26 : decode b_PW_run 26 = .ok (.iconst 3, 1) := by decide +kernel
theorem d_PW_run_27 : decode b_PW_run 27 = .ok (.if_icmp .ne 38, 3) := by decide +kernel
theorem d_PW_run_30 : decode b_PW_run 30 = .ok (.iload_n 2, 1) := by decide +kernel
theorem d_PW_run_31 : decode b_PW_run 31 = .ok (.ifCond .eq 34, 3) := by decide +kernel
theorem d_PW_run_34 : decode b_PW_run 34 = .ok (.aload_n 0, 1) := by decide +kernel
theorem d_PW_run_35 : decode b_PW_run 35 = .ok (.getfield 62, 3) := by decide +kernel
theorem d_PW_run_38 : decode b_PW_run 38 = .ok (.aload_n 1, 1) := by decide +kernel
theorem d_PW_run_39 : decode b_PW_run 39 = .ok (.invokevirtual 247, 3) := by decide +kernel
theorem d_PW_run_42 : decode b_PW_run 42 = .ok (.ifCond .eq 23, 3) := by decide +kernel
theorem d_PW_run_45 : decode b_PW_run 45 = .ok (.aload_n 0, 1) := by decide +kernel
theorem d_PW_run_46 : decode b_PW_run 46 = .ok (.getfield 62, 3) := by decide +kernel
theorem d_PW_run_49 : decode b_PW_run 49 = .ok (.aload_n 1, 1) := by decide +kernel
theorem d_PW_run_50 : decode b_PW_run 50 = .ok (.aload_n 0, 1) := by decide +kernel
theorem d_PW_run_51 : decode b_PW_run 51 = .ok (.getfield 38, 3) := by decide +kernel
theorem d_PW_run_54 : decode b_PW_run 54 = .ok (.iload_n 2, 1) := by decide +kernel
theorem d_PW_run_55 : decode b_PW_run 55 = .ok (.iload 4, 2) := by decide +kernel
theorem d_PW_run_57 : decode b_PW_run 57 = .ok (.aload_n 0, 1) := by decide +kernel
theorem d_PW_run_58 : decode b_PW_run 58 = .ok (.getfield 42, 3) := by decide +kernel
theorem d_PW_run_61 : decode b_PW_run 61 = .ok (.invokevirtual 250, 3) := by decide +kernel
theorem d_PW_run_64 : decode b_PW_run 64 = .ok (.ireturn, 1) := by decide +kernel
theorem d_PW_run_65 : decode b_PW_run 65 = .ok (.iload_n 3, 1) := by decide +kernel
theorem d_PW_run_66 : decode b_PW_run 66 = .ok (.iconst 4, 1) := by decide +kernel
theorem d_PW_run_67 : decode b_PW_run 67 = .ok (.if_icmp .ne 23, 3) := by decide +kernel
theorem d_PW_run_70 : decode b_PW_run 70 = .ok (.aload_n 0, 1) := by decide +kernel
theorem d_PW_run_71 : decode b_PW_run 71 = .ok (.getfield 69, 3) := by decide +kernel
theorem d_PW_run_74 : decode b_PW_run 74 = .ok (.aload_n 1, 1) := by decide +kernel
theorem d_PW_run_75 : decode b_PW_run 75 = .ok (.aload_n 0, 1) := by decide +kernel
theorem d_PW_run_76 : decode b_PW_run 76 = .ok (.getfield 38, 3) := by decide +kernel
theorem d_PW_run_79 : decode b_PW_run 79 = .ok (.iload_n 2, 1) := by decide +kernel
theorem d_PW_run_80 : decode b_PW_run 80 = .ok (.iload 4, 2) := by decide +kernel
theorem d_PW_run_82 : decode b_PW_run 82 = .ok (.invokevirtual 224, 3) := by decide +kernel
theorem d_PW_run_85 : decode b_PW_run 85 = .ok (.ifCond .ne 5, 3) := by decide +kernel
theorem d_PW_run_88 : decode b_PW_run 88 = .ok (.iconst (-1), 1) := by decide +kernel
theorem d_PW_run_89 : decode b_PW_run 89 = .ok (.ireturn, 1) := by decide +kernel
theorem d_PW_run_90 : decode b_PW_run 90 = .ok (.aload_n 0, 1) := by decide +kernel
theorem d_PW_run_91 : decode b_PW_run 91 = .ok (.getfield 55, 3) := by decide +kernel
theorem d_PW_run_94 : decode b_PW_run 94 = .ok (.aload_n 1, 1) := by decide +kernel
theorem d_PW_run_95 : decode b_PW_run 95 = .ok (.aload_n 0, 1) := by decide +kernel
theorem d_PW_run_96 : decode b_PW_run 96 = .ok (.getfield 38, 3) := by decide +kernel
theorem d_PW_run_99 : decode b_PW_run 99 = .ok (.iload_n 2, 1) := by decide +kernel
theorem d_PW_run_100 : decode b_PW_run 100 = .ok (.iload 4, 2) := by decide +kernel
theorem d_PW_run_102 : decode b_PW_run 102 = .ok (.aload_n 0, 1) := by decide +kernel
theorem d_PW_run_103 : decode b_PW_run 103 = .ok (.getfield 42, 3) := by decide +kernel
theorem d_PW_run_106 : decode b_PW_run 106 = .ok (.invokevirtual 189, 3) := by decide +kernel
theorem d_PW_run_109 : decode b_PW_run 109 = .ok (.aload_n 0, 1) := by decide +kernel
theorem d_PW_run_110 : decode b_PW_run 110 = .ok (.getfield 55, 3) := by decide +kernel
theorem d_PW_run_113 : decode b_PW_run 113 = .ok (.iload 4, 2) := by decide +kernel
theorem d_PW_run_115 : decode b_PW_run 115 = .ok (.invokevirtual 251, 3) := by decide +kernel
theorem d_PW_run_118 : decode b_PW_run 118 = .ok (.ireturn, 1) := by decide +kernel
