theorem d_PW_addTemplate_0 : decode b_PW_addTemplate 0 = .ok (.iconst 1, 1) := by decide +kernel
theorem d_PW_addTemplate_1 : decode b_PW_addTemplate 1 = .ok (.istore_n 1, 1) := by decide +kernel
theorem d_PW_addTemplate_2 : decode b_PW_addTemplate 2 = .ok (.iconst 0, 1) := by decide +kernel
theorem d_PW_addTemplate_3 : decode b_PW_addTemplate 3 = .ok (.istore_n 2, 1) := by decide +kernel
theorem d_PW_addTemplate_4 : decode b_PW_addTemplate 4 = .ok (.iload_n 2, 1) := by decide +kernel
theorem d_PW_addTemplate_5 : decode b_PW_addTemplate 5 = .ok (.aload_n 0, 1) := by decide +kernel
theorem d_PW_addTemplate_6 : decode b_PW_addTemplate 6 = .ok (.getfield 82, 3) := by decide +kernel
theorem d_PW_addTemplate_9 : decode b_PW_addTemplate 9 = .ok (.getfield 101, 3) := by decide +kernel
theorem d_PW_addTemplate_12 : decode b_PW_addTemplate 12 = .ok (.if_icmp .ge 96, 3) := by decide +kernel
theorem d_PW_addTemplate_15 : decode b_PW_addTemplate 15 = .ok (.iload_n 1, 1) := by decide +kernel
theorem d_PW_addTemplate_16 : decode b_PW_addTemplate 16 = .ok (.ifCond .eq 92, 3) := by decide +kernel
theorem d_PW_addTemplate_19 : decode b_PW_addTemplate 19 = .ok (.aload_n 0, 1) := by decide +kernel
theorem d_PW_addTemplate_20 : decode b_PW_addTemplate 20 = .ok (.getfield 82, 3) := by decide +kernel
theorem d_PW_addTemplate_23 : decode b_PW_addTemplate 23 = .ok (.getfield 272, 3) := by decide +kernel
theorem d_PW_addTemplate_26 : decode b_PW_addTemplate 26 = .ok (.iload_n 2, 1) := by decide +kernel
theorem d_PW_addTemplate_27 : decode b_PW_addTemplate 27 = .ok (.iaload, 1) := by decide +kernel
theorem d_PW_addTemplate_28 : decode b_PW_addTemplate 28 = .ok (.istore_n 3, 1) := by decide +kernel
theorem d_PW_addTemplate_29 : decode b_PW_addTemplate 29 = .ok (.iload_n 3, 1) := by decide +kernel
theorem d_PW_addTemplate_30 : decode b_PW_addTemplate 30 = .ok (.ifCond .lt 15, 3) := by decide +kernel
theorem d_PW_addTemplate_33 : decode b_PW_addTemplate 33 = .ok (.aload_n 0, 1) := by decide +kernel
theorem d_PW_addTemplate_34 : decode b_PW_addTemplate 34 = .ok (.getfield 88, 3) := by decide +kernel
theorem d_PW_addTemplate_37 : decode b_PW_addTemplate 37 = .ok (.iload_n 3, 1) := by decide +kernel
theorem d_PW_addTemplate_38 : decode b_PW_addTemplate 38 = .ok (.invokevirtual 197, 3) := by decide +kernel
theorem d_PW_addTemplate_41 : decode b_PW_addTemplate 41 = .ok (.istore_n 1, 1) := by decide +kernel
theorem d_PW_addTemplate_42 : decode b_PW_addTemplate 42 = .ok (.goto 60, 3) := by decide +kernel
theorem d_PW_addTemplate_45 : decode b_PW_addTemplate 45 = .ok (.iconst 2, 1) := by decide +kernel
theorem d_PW_addTemplate_46 : decode b_PW_addTemplate 46 = .ok (.iconst (-1), 1) := by decide +kernel
theorem d_PW_addTemplate_47 : decode b_PW_addTemplate 47 = .ok (.iload_n 3, 1) := by decide +kernel
theorem d_PW_addTemplate_48 : decode b_PW_addTemplate 48 = .ok (.isub, 1) := by decide +kernel
theorem d_PW_addTemplate_49 : decode b_PW_addTemplate 49 = .ok (.imul, 1) := by decide +kernel
theorem d_PW_addTemplate_50 : decode b_PW_addTemplate 50 = .ok (.istore 4, 2) := by decide +kernel
theorem d_PW_addTemplate_52 : decode b_PW_addTemplate 52 = .ok (.aload_n 0, 1) := by decide +kernel
theorem d_PW_addTemplate_53 : decode b_PW_addTemplate 53 = .ok (.getfield 42, 3) := by decide +kernel
theorem d_PW_addTemplate_56 : decode b_PW_addTemplate 56 = .ok (.iload 4, 2) := by decide +kernel
theorem d_PW_addTemplate_58 : decode b_PW_addTemplate 58 = .ok (.iaload, 1) := by decide +kernel
theorem d_PW_addTemplate_59 : decode b_PW_addTemplate 59 = .ok (.iconst (-1), 1) := by decide +kernel
theorem d_PW_addTemplate_60 : decode b_PW_addTemplate 60 = .ok (.if_icmp .eq 36, 3) := by decide +kernel
theorem d_PW_addTemplate_63 : decode b_PW_addTemplate 63 = .ok (.aload_n 0, 1) := by decide +kernel
theorem d_PW_addTemplate_64 : decode b_PW_addTemplate 64 = .ok (.getfield 88, 3) := by decide +kernel
theorem d_PW_addTemplate_67 : decode b_PW_addTemplate 67 = .ok (.aload_n 0, 1) := by decide +kernel
theorem d_PW_addTemplate_68 : decode b_PW_addTemplate 68 = .ok (.getfield 38, 3) := by decide +kernel
theorem d_PW_addTemplate_71 : decode b_PW_addTemplate 71 = .ok (.getfield 210, 3) := by decide +kernel
theorem d_PW_addTemplate_74 : decode b_PW_addTemplate 74 = .ok (.aload_n 0, 1) := by decide +kernel
theorem d_PW_addTemplate_75 : decode b_PW_addTemplate 75 = .ok (.getfield 42, 3) := by decide +kernel
theorem d_PW_addTemplate_78 : decode b_PW_addTemplate 78 = .ok (.iload 4, 2) := by decide +kernel
theorem d_PW_addTemplate_80 : decode b_PW_addTemplate 80 = .ok (.iaload, 1) := by decide +kernel
theorem d_PW_addTemplate_81 : decode b_PW_addTemplate 81 = .ok (.aload_n 0, 1) := by decide +kernel
theorem d_PW_addTemplate_82 : decode b_PW_addTemplate 82 = .ok (.getfield 42, 3) := by decide +kernel
theorem d_PW_addTemplate_85 : decode b_PW_addTemplate 85 = .ok (.iload 4, 2) := by decide +kernel
theorem d_PW_addTemplate_87 : decode b_PW_addTemplate 87 = .ok (.iconst 1, 1) := by decide +kernel
theorem d_PW_addTemplate_88 : decode b_PW_addTemplate 88 = .ok (.iadd, 1) := by decide +kernel
theorem d_PW_addTemplate_89 : decode b_PW_addTemplate 89 = .ok (.iaload, 1) := by decide +kernel
theorem d_PW_addTemplate_90 : decode b_PW_addTemplate 90 = .ok (.invokevirtual 105, 3) := by decide +kernel
theorem d_PW_addTemplate_93 : decode b_PW_addTemplate 93 = .ok (.ifCond .eq 7, 3) := by decide +kernel
theorem d_PW_addTemplate_96 : decode b_PW_addTemplate 96 = .ok (.iconst 1, 1) := by decide +kernel
theorem d_PW_addTemplate_97 : decode b_PW_addTemplate 97 = .ok (.goto 4, 3) := by decide +kernel
theorem d_PW_addTemplate_100 : decode b_PW_addTemplate 100 = .ok (.iconst 0, 1) := by decide +kernel
theorem d_PW_addTemplate_101 : decode b_PW_addTemplate 101 = .ok (.istore_n 1, 1) := by decide +kernel
theorem d_PW_addTemplate_102 : decode b_PW_addTemplate 102 = .ok (.iinc 2 1, 3) := by decide +kernel
theorem d_PW_addTemplate_105 : decode b_PW_addTemplate 105 = .ok (.goto (-101), 3) := by decide +kernel
theorem d_PW_addTemplate_108 : decode b_PW_addTemplate 108 = .ok (.iload_n 1, 1) := by decide +kernel
theorem d_PW_addTemplate_109 : decode b_PW_addTemplate 109 = .ok (.ireturn, 1) := by decide +kernel
