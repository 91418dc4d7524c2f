theorem d_MO_beginAll_0 : decode b_MO_beginAll 0 = .ok (.aload_n 0, 1) := by decide +kernel
theorem d_MO_beginAll_1 : decode b_MO_beginAll 1 = .ok (.aload_n 0, 1) := by decide +kernel
theorem d_MO_beginAll_2 : decode b_MO_beginAll 2 = .ok (.getfield 178, 3) := by decide +kernel
theorem d_MO_beginAll_5 : decode b_MO_beginAll 5 = .ok (.iload_n 1, 1) := by decide +kernel
theorem d_MO_beginAll_6 : decode b_MO_beginAll 6 = .ok (.aload_n 0, 1) := by decide +kernel
theorem d_MO_beginAll_7 : decode b_MO_beginAll 7 = .ok (.getfield 510, 3) := by decide +kernel
theorem d_MO_beginAll_10 : decode b_MO_beginAll 10 = .ok (.iconst 0, 1) := by decide +kernel
theorem d_MO_beginAll_11 : decode b_MO_beginAll 11 = .ok (.iconst 0, 1) := by decide +kernel
theorem d_MO_beginAll_12 : decode b_MO_beginAll 12 = .ok (.invokevirtual 559, 3) := by decide +kernel
theorem d_MO_beginAll_15 : decode b_MO_beginAll 15 = .ok (.aload_n 0, 1) := by decide +kernel
theorem d_MO_beginAll_16 : decode b_MO_beginAll 16 = .ok (.iconst 0, 1) := by decide +kernel
theorem d_MO_beginAll_17 : decode b_MO_beginAll 17 = .ok (.putfield 573, 3) := by decide +kernel
theorem d_MO_beginAll_20 : decode b_MO_beginAll 20 = .ok (.aload_n 0, 1) := by decide +kernel
theorem d_MO_beginAll_21 : decode b_MO_beginAll 21 = .ok (.iconst (-1), 1) := by decide +kernel
theorem d_MO_beginAll_22 : decode b_MO_beginAll 22 = .ok (.putfield 576, 3) := by decide +kernel
theorem d_MO_beginAll_25 : decode b_MO_beginAll 25 = .ok (.return_, 1) := by decide +kernel
theorem d_MO_find_0 : decode b_MO_find 0 = .ok (.iload_n 2, 1) := by decide +kernel
theorem d_MO_find_1 : decode b_MO_find 1 = .ok (.istore 4, 2) := by decide +kernel
theorem d_MO_find_3 : decode b_MO_find 3 = .ok (.iload_n 3, 1) := by decide +kernel
theorem d_MO_find_4 : decode b_MO_find 4 = .ok (.ifCond .eq 36, 3) := by decide +kernel
theorem d_MO_find_7 : decode b_MO_find 7 = .ok (.iload 4, 2) := by decide +kernel
theorem d_MO_find_9 : decode b_MO_find 9 = .ok (.aload_n 0, 1) := by decide +kernel
theorem d_MO_find_10 : decode b_MO_find 10 = .ok (.getfield 510, 3) := by decide +kernel
theorem d_MO_find_13 : decode b_MO_find 13 = .ok (.if_icmp .ge 27, 3) := by decide +kernel
theorem d_MO_find_16 : decode b_MO_find 16 = .ok (.aload_n 0, 1) := by decide +kernel
theorem d_MO_find_17 : decode b_MO_find 17 = .ok (.getfield 178, 3) := by decide +kernel
theorem d_MO_find_20 : decode b_MO_find 20 = .ok (.iload 4, 2) := by decide +kernel
theorem d_MO_find_22 : decode b_MO_find 22 = .ok (.aload_n 0, 1) := by decide +kernel
theorem d_MO_find_23 : decode b_MO_find 23 = .ok (.getfield 112, 3) := by decide +kernel
theorem d_MO_find_26 : decode b_MO_find 26 = .ok (.iload_n 1, 1) := by decide +kernel
theorem d_MO_find_27 : decode b_MO_find 27 = .ok (.iaload, 1) := by decide +kernel
theorem d_MO_find_28 : decode b_MO_find 28 = .ok (.invokestatic 528, 3) := by decide +kernel
theorem d_MO_find_31 : decode b_MO_find 31 = .ok (.ifCond .ne 9, 3) := by decide +kernel
theorem d_MO_find_34 : decode b_MO_find 34 = .ok (.iinc 4 1, 3) := by decide +kernel
theorem d_MO_find_37 : decode b_MO_find 37 = .ok (.goto (-34), 3) := by decide +kernel
theorem d_MO_find_40 : decode b_MO_find 40 = .ok (.aload_n 0, 1) := by decide +kernel
theorem d_MO_find_41 : decode b_MO_find 41 = .ok (.getfield 178, 3) := by decide +kernel
theorem d_MO_find_44 : decode b_MO_find 44 = .ok (.iload 4, 2) := by decide +kernel
theorem d_MO_find_46 : decode b_MO_find 46 = .ok (.aload_n 0, 1) := by decide +kernel
theorem d_MO_find_47 : decode b_MO_find 47 = .ok (.getfield 112, 3) := by decide +kernel
theorem d_MO_find_50 : decode b_MO_find 50 = .ok (.iload_n 1, 1) := by decide +kernel
theorem d_MO_find_51 : decode b_MO_find 51 = .ok (.iaload, 1) := by decide +kernel
theorem d_MO_find_52 : decode b_MO_find 52 = .ok (.invokestatic 528, 3) := by decide +kernel
theorem d_MO_find_55 : decode b_MO_find 55 = .ok (.ifCond .ne 5, 3) := by decide +kernel
theorem d_MO_find_58 : decode b_MO_find 58 = .ok (.iconst 0, 1) := by decide +kernel
theorem d_MO_find_59 : decode b_MO_find 59 = .ok (.ireturn, 1) := by decide +kernel
theorem d_MO_find_60 : decode b_MO_find 60 = .ok (.aload_n 0, 1) := by decide +kernel
theorem d_MO_find_61 : decode b_MO_find 61 = .ok (.getfield 121, 3) := by decide +kernel
theorem d_MO_find_64 : decode b_MO_find 64 = .ok (.iload_n 1, 1) := by decide +kernel
theorem d_MO_find_65 : decode b_MO_find 65 = .ok (.iaload, 1) := by decide +kernel
theorem d_MO_find_66 : decode b_MO_find 66 = .ok (.bipush 16, 2) := by decide +kernel
theorem d_MO_find_68 : decode b_MO_find 68 = .ok (.iand, 1) := by decide +kernel
theorem d_MO_find_69 : decode b_MO_find 69 = .ok (.ifCond .ne 17, 3) := by decide +kernel
theorem d_MO_find_72 : decode b_MO_find 72 = .ok (.aload_n 0, 1) := by decide +kernel
theorem d_MO_find_73 : decode b_MO_find 73 = .ok (.aload_n 0, 1) := by decide +kernel
theorem d_MO_find_74 : decode b_MO_find 74 = .ok (.getfield 178, 3) := by decide +kernel
theorem d_MO_find_77 : decode b_MO_find 77 = .ok (.iload_n 1, 1) := by decide +kernel
theorem d_MO_find_78 : decode b_MO_find 78 = .ok (.iload 4, 2) := by decide +kernel
theorem d_MO_find_80 : decode b_MO_find 80 = .ok (.iconst (-1), 1) := by decide +kernel
theorem d_MO_find_81 : decode b_MO_find 81 = .ok (.invokevirtual 552, 3) := by decide +kernel
theorem d_MO_find_84 : decode b_MO_find 84 = .ok (.iconst 1, 1) := by decide +kernel
theorem d_MO_find_85 : decode b_MO_find 85 = .ok (.ireturn, 1) := by decide +kernel
theorem d_MO_find_86 : decode b_MO_find 86 = .ok (.aload_n 0, 1) := by decide +kernel
theorem d_MO_find_87 : decode b_MO_find 87 = .ok (.iload_n 1, 1) := by decide +kernel
theorem d_MO_find_88 : decode b_MO_find 88 = .ok (.iload 4, 2) := by decide +kernel
theorem d_MO_find_90 : decode b_MO_find 90 = .ok (.invokevirtual 556, 3) := by decide +kernel
theorem d_MO_find_93 : decode b_MO_find 93 = .ok (.istore 5, 2) := by decide +kernel
theorem d_MO_find_95 : decode b_MO_find 95 = .ok (.aload_n 0, 1) := by decide +kernel
theorem d_MO_find_96 : decode b_MO_find 96 = .ok (.aload_n 0, 1) := by decide +kernel
theorem d_MO_find_97 : decode b_MO_find 97 = .ok (.getfield 181, 3) := by decide +kernel
theorem d_MO_find_100 : decode b_MO_find 100 = .ok (.iload_n 1, 1) := by decide +kernel
theorem d_MO_find_101 : decode b_MO_find 101 = .ok (.iload 5, 2) := by decide +kernel
theorem d_MO_find_103 : decode b_MO_find 103 = .ok (.iload 4, 2) := by decide +kernel
theorem d_MO_find_105 : decode b_MO_find 105 = .ok (.iconst 1, 1) := by decide +kernel
theorem d_MO_find_106 : decode b_MO_find 106 = .ok (.invokevirtual 559, 3) := by decide +kernel
theorem d_MO_find_109 : decode b_MO_find 109 = .ok (.aload_n 0, 1) := by decide +kernel
theorem d_MO_find_110 : decode b_MO_find 110 = .ok (.aload_n 0, 1) := by decide +kernel
theorem d_MO_find_111 : decode b_MO_find 111 = .ok (.getfield 181, 3) := by decide +kernel
theorem d_MO_find_114 : decode b_MO_find 114 = .ok (.iload_n 1, 1) := by decide +kernel
theorem d_MO_find_115 : decode b_MO_find 115 = .ok (.iload 4, 2) := by decide +kernel
theorem d_MO_find_117 : decode b_MO_find 117 = .ok (.iload 5, 2) := by decide +kernel
theorem d_MO_find_119 : decode b_MO_find 119 = .ok (.invokevirtual 552, 3) := by decide +kernel
theorem d_MO_find_122 : decode b_MO_find 122 = .ok (.iconst 1, 1) := by decide +kernel
theorem d_MO_find_123 : decode b_MO_find 123 = .ok (.ireturn, 1) := by decide +kernel
theorem d_MO_nextMatch_0 : decode b_MO_nextMatch 0 = .ok (.aload_n 0, 1) := by decide +kernel
theorem d_MO_nextMatch_1 : decode b_MO_nextMatch 1 = .ok (.getfield 573, 3) := by decide +kernel
theorem d_MO_nextMatch_4 : decode b_MO_nextMatch 4 = .ok (.aload_n 0, 1) := by decide +kernel
theorem d_MO_nextMatch_5 : decode b_MO_nextMatch 5 = .ok (.getfield 510, 3) := by decide +kernel
theorem d_MO_nextMatch_8 : decode b_MO_nextMatch 8 = .ok (.if_icmp .gt 94, 3) := by decide +kernel
theorem d_MO_nextMatch_11 : decode b_MO_nextMatch 11 = .ok (.aload_n 0, 1) := by decide +kernel
theorem d_MO_nextMatch_12 : decode b_MO_nextMatch 12 = .ok (.iload_n 1, 1) := by decide +kernel
theorem d_MO_nextMatch_13 : decode b_MO_nextMatch 13 = .ok (.aload_n 0, 1) := by decide +kernel
theorem d_MO_nextMatch_14 : decode b_MO_nextMatch 14 = .ok (.getfield 573, 3) := by decide +kernel
theorem d_MO_nextMatch_17 : decode b_MO_nextMatch 17 = .ok (.iconst 1, 1) := by decide +kernel
theorem d_MO_nextMatch_18 : decode b_MO_nextMatch 18 = .ok (.invokevirtual 566, 3) := by decide +kernel
theorem d_MO_nextMatch_21 : decode b_MO_nextMatch 21 = .ok (.ifCond .eq 81, 3) := by decide +kernel
theorem d_MO_nextMatch_24 : decode b_MO_nextMatch 24 = .ok (.aload_n 0, 1) := by decide +kernel
theorem d_MO_nextMatch_25 : decode b_MO_nextMatch 25 = .ok (.getfield 190, 3) := by decide +kernel
theorem d_MO_nextMatch_28 : decode b_MO_nextMatch 28 = .ok (.iconst 0, 1) := by decide +kernel
theorem d_MO_nextMatch_29 : decode b_MO_nextMatch 29 = .ok (.iaload, 1) := by decide +kernel
theorem d_MO_nextMatch_30 : decode b_MO_nextMatch 30 = .ok (.aload_n 0, 1) := by decide +kernel
theorem d_MO_nextMatch_31 : decode b_MO_nextMatch 31 = .ok (.getfield 190, 3) := by decide +kernel
theorem d_MO_nextMatch_34 : decode b_MO_nextMatch 34 = .ok (.iconst 1, 1) := by decide +kernel
theorem d_MO_nextMatch_35 : decode b_MO_nextMatch 35 = .ok (.iaload, 1) := by decide +kernel
theorem d_MO_nextMatch_36 : decode b_MO_nextMatch 36 = .ok (.if_icmp .ne 20, 3) := by decide +kernel
theorem d_MO_nextMatch_39 : decode b_MO_nextMatch 39 = .ok (.aload_n 0, 1) := by decide +kernel
theorem d_MO_nextMatch_40 : decode b_MO_nextMatch 40 = .ok (.getfield 190, 3) := by decide +kernel
theorem d_MO_nextMatch_43 : decode b_MO_nextMatch 43 = .ok (.iconst 0, 1) := by decide +kernel
theorem d_MO_nextMatch_44 : decode b_MO_nextMatch 44 = .ok (.iaload, 1) := by decide +kernel
theorem d_MO_nextMatch_45 : decode b_MO_nextMatch 45 = .ok (.aload_n 0, 1) := by decide +kernel
theorem d_MO_nextMatch_46 : decode b_MO_nextMatch 46 = .ok (.getfield 576, 3) := by decide +kernel
theorem d_MO_nextMatch_49 : decode b_MO_nextMatch 49 = .ok (.if_icmp .ne 7, 3) := by decide +kernel
theorem d_MO_nextMatch_52 : decode b_MO_nextMatch 52 = .ok (.iconst 1, 1) := by decide +kernel
theorem d_MO_nextMatch_53 : decode b_MO_nextMatch 53 = .ok (.goto 4, 3) := by decide +kernel
theorem d_MO_nextMatch_56 : decode b_MO_nextMatch 56 = .ok (.iconst 0, 1) := by decide +kernel
theorem d_MO_nextMatch_57 : decode b_MO_nextMatch 57 = .ok (.istore_n 2, 1) := by decide +kernel
theorem d_MO_nextMatch_58 : decode b_MO_nextMatch 58 = .ok (.aload_n 0, 1) := by decide +kernel
theorem d_MO_nextMatch_59 : decode b_MO_nextMatch 59 = .ok (.iload_n 2, 1) := by decide +kernel
theorem d_MO_nextMatch_60 : decode b_MO_nextMatch 60 = .ok (.ifCond .eq 14, 3) := by decide +kernel
theorem d_MO_nextMatch_63 : decode b_MO_nextMatch 63 = .ok (.aload_n 0, 1) := by decide +kernel
theorem d_MO_nextMatch_64 : decode b_MO_nextMatch 64 = .ok (.getfield 190, 3) := by decide +kernel
theorem d_MO_nextMatch_67 : decode b_MO_nextMatch 67 = .ok (.iconst 0, 1) := by decide +kernel
theorem d_MO_nextMatch_68 : decode b_MO_nextMatch 68 = .ok (.iaload, 1) := by decide +kernel
theorem d_MO_nextMatch_69 : decode b_MO_nextMatch 69 = .ok (.iconst 1, 1) := by decide +kernel
theorem d_MO_nextMatch_70 : decode b_MO_nextMatch 70 = .ok (.iadd, 1) := by decide +kernel
theorem d_MO_nextMatch_71 : decode b_MO_nextMatch 71 = .ok (.goto 9, 3) := by decide +kernel
theorem d_MO_nextMatch_74 : decode b_MO_nextMatch 74 = .ok (.aload_n 0, 1) := by decide +kernel
theorem d_MO_nextMatch_75 : decode b_MO_nextMatch 75 = .ok (.getfield 190, 3) := by decide +kernel
theorem d_MO_nextMatch_78 : decode b_MO_nextMatch 78 = .ok (.iconst 1, 1) := by decide +kernel
theorem d_MO_nextMatch_79 : decode b_MO_nextMatch 79 = .ok (.iaload, 1) := by decide +kernel
theorem d_MO_nextMatch_80 : decode b_MO_nextMatch 80 = .ok (.putfield 573, 3) := by decide +kernel
theorem d_MO_nextMatch_83 : decode b_MO_nextMatch 83 = .ok (.iload_n 2, 1) := by decide +kernel
theorem d_MO_nextMatch_84 : decode b_MO_nextMatch 84 = .ok (.ifCond .eq 6, 3) := by decide +kernel
theorem d_MO_nextMatch_87 : decode b_MO_nextMatch 87 = .ok (.goto (-87), 3) := by decide +kernel
theorem d_MO_nextMatch_90 : decode b_MO_nextMatch 90 = .ok (.aload_n 0, 1) := by decide +kernel
theorem d_MO_nextMatch_91 : decode b_MO_nextMatch 91 = .ok (.aload_n 0, 1) := by decide +kernel
theorem d_MO_nextMatch_92 : decode b_MO_nextMatch 92 = .ok (.getfield 190, 3) := by decide +kernel
theorem d_MO_nextMatch_95 : decode b_MO_nextMatch 95 = .ok (.iconst 1, 1) := by decide +kernel
theorem d_MO_nextMatch_96 : decode b_MO_nextMatch 96 = .ok (.iaload, 1) := by decide +kernel
theorem d_MO_nextMatch_97 : decode b_MO_nextMatch 97 = .ok (.putfield 576, 3) := by decide +kernel
theorem d_MO_nextMatch_100 : decode b_MO_nextMatch 100 = .ok (.iconst 1, 1) := by decide +kernel
theorem d_MO_nextMatch_101 : decode b_MO_nextMatch 101 = .ok (.ireturn, 1) := by decide +kernel
theorem d_MO_nextMatch_102 : decode b_MO_nextMatch 102 = .ok (.iconst 0, 1) := by decide +kernel
theorem d_MO_nextMatch_103 : decode b_MO_nextMatch 103 = .ok (.ireturn, 1) := by decide +kernel
