theorem d_ST_addCut_0 : decode b_ST_addCut 0 = .ok (.aload_n 0, 1) := by decide +kernel
theorem d_ST_addCut_1 : decode b_ST_addCut 1 = .ok (.getfield 63, 3) := by decide +kernel
theorem d_ST_addCut_4 : decode b_ST_addCut 4 = .ok (.bipush 120, 2) := by decide +kernel
theorem d_ST_addCut_6 : decode b_ST_addCut 6 = .ok (.if_icmp .le 7, 3) := by decide +kernel
theorem d_ST_addCut_9 : decode b_ST_addCut 9 = .ok (.iconst 0, 1) := by decide +kernel
theorem d_ST_addCut_10 : decode b_ST_addCut 10 = .ok (.goto 10, 3) := by decide +kernel
theorem d_ST_addCut_13 : decode b_ST_addCut 13 = .ok (.aload_n 0, 1) := by decide +kernel
theorem d_ST_addCut_14 : decode b_ST_addCut 14 = .ok (.iload_n 1, 1) := by decide +kernel
theorem d_ST_addCut_15 : decode b_ST_addCut 15 = .ok (.invokevirtual 107, 3) := by decide +kernel
theorem d_ST_addCut_18 : decode b_ST_addCut 18 = .ok (.iconst 1, 1) := by decide +kernel
theorem d_ST_addCut_19 : decode b_ST_addCut 19 = .ok (.iadd, 1) := by decide +kernel
theorem d_ST_addCut_20 : decode b_ST_addCut 20 = .ok (.istore_n 2, 1) := by decide +kernel
theorem d_ST_addCut_21 : decode b_ST_addCut 21 = .ok (.aload_n 0, 1) := by decide +kernel
theorem d_ST_addCut_22 : decode b_ST_addCut 22 = .ok (.getfield 63, 3) := by decide +kernel
theorem d_ST_addCut_25 : decode b_ST_addCut 25 = .ok (.bipush 120, 2) := by decide +kernel
theorem d_ST_addCut_27 : decode b_ST_addCut 27 = .ok (.if_icmp .gt 19, 3) := by decide +kernel
theorem d_ST_addCut_30 : decode b_ST_addCut 30 = .ok (.iload_n 2, 1) := by decide +kernel
theorem d_ST_addCut_31 : decode b_ST_addCut 31 = .ok (.ifCond .le 16, 3) := by decide +kernel
theorem d_ST_addCut_34 : decode b_ST_addCut 34 = .ok (.aload_n 0, 1) := by decide +kernel
theorem d_ST_addCut_35 : decode b_ST_addCut 35 = .ok (.getfield 15, 3) := by decide +kernel
theorem d_ST_addCut_38 : decode b_ST_addCut 38 = .ok (.iload_n 2, 1) := by decide +kernel
theorem d_ST_addCut_39 : decode b_ST_addCut 39 = .ok (.iconst 1, 1) := by decide +kernel
theorem d_ST_addCut_40 : decode b_ST_addCut 40 = .ok (.isub, 1) := by decide +kernel
theorem d_ST_addCut_41 : decode b_ST_addCut 41 = .ok (.iaload, 1) := by decide +kernel
theorem d_ST_addCut_42 : decode b_ST_addCut 42 = .ok (.iload_n 1, 1) := by decide +kernel
theorem d_ST_addCut_43 : decode b_ST_addCut 43 = .ok (.if_icmp .ne 4, 3) := by decide +kernel
theorem d_ST_addCut_46 : decode b_ST_addCut 46 = .ok (.return_, 1) := by decide +kernel
theorem d_ST_addCut_47 : decode b_ST_addCut 47 = .ok (.aload_n 0, 1) := by decide +kernel
theorem d_ST_addCut_48 : decode b_ST_addCut 48 = .ok (.getfield 63, 3) := by decide +kernel
theorem d_ST_addCut_51 : decode b_ST_addCut 51 = .ok (.bipush 120, 2) := by decide +kernel
theorem d_ST_addCut_53 : decode b_ST_addCut 53 = .ok (.if_icmp .ge 31, 3) := by decide +kernel
theorem d_ST_addCut_56 : decode b_ST_addCut 56 = .ok (.aload_n 0, 1) := by decide +kernel
theorem d_ST_addCut_57 : decode b_ST_addCut 57 = .ok (.getfield 15, 3) := by decide +kernel
theorem d_ST_addCut_60 : decode b_ST_addCut 60 = .ok (.iload_n 2, 1) := by decide +kernel
theorem d_ST_addCut_61 : decode b_ST_addCut 61 = .ok (.aload_n 0, 1) := by decide +kernel
theorem d_ST_addCut_62 : decode b_ST_addCut 62 = .ok (.getfield 15, 3) := by decide +kernel
theorem d_ST_addCut_65 : decode b_ST_addCut 65 = .ok (.iload_n 2, 1) := by decide +kernel
theorem d_ST_addCut_66 : decode b_ST_addCut 66 = .ok (.iconst 1, 1) := by decide +kernel
theorem d_ST_addCut_67 : decode b_ST_addCut 67 = .ok (.iadd, 1) := by decide +kernel
theorem d_ST_addCut_68 : decode b_ST_addCut 68 = .ok (.aload_n 0, 1) := by decide +kernel
theorem d_ST_addCut_69 : decode b_ST_addCut 69 = .ok (.getfield 63, 3) := by decide +kernel
theorem d_ST_addCut_72 : decode b_ST_addCut 72 = .ok (.iload_n 2, 1) := by decide +kernel
theorem d_ST_addCut_73 : decode b_ST_addCut 73 = .ok (.isub, 1) := by decide +kernel
theorem d_ST_addCut_74 : decode b_ST_addCut 74 = .ok (.invokestatic 111, 3) := by decide +kernel
theorem d_ST_addCut_77 : decode b_ST_addCut 77 = .ok (.aload_n 0, 1) := by decide +kernel
theorem d_ST_addCut_78 : decode b_ST_addCut 78 = .ok (.getfield 15, 3) := by decide +kernel
theorem d_ST_addCut_81 : decode b_ST_addCut 81 = .ok (.iload_n 2, 1) := by decide +kernel
theorem d_ST_addCut_82 : decode b_ST_addCut 82 = .ok (.iload_n 1, 1) := by decide +kernel
theorem d_ST_addCut_83 : decode b_ST_addCut 83 = .ok (.iastore, 1) := by decide +kernel
theorem d_ST_addCut_84 : decode b_ST_addCut 84 = .ok (.aload_n 0, 1) := by decide +kernel
theorem d_ST_addCut_85 : decode b_ST_addCut 85 = .ok (.dup, 1) := by decide +kernel
theorem d_ST_addCut_86 : decode b_ST_addCut 86 = .ok (.getfield 63, 3) := by decide +kernel
theorem d_ST_addCut_89 : decode b_ST_addCut 89 = .ok (.iconst 1, 1) := by decide +kernel
theorem d_ST_addCut_90 : decode b_ST_addCut 90 = .ok (.iadd, 1) := by decide +kernel
theorem d_ST_addCut_91 : decode b_ST_addCut 91 = .ok (.putfield 63, 3) := by decide +kernel
theorem d_ST_addCut_94 : decode b_ST_addCut 94 = .ok (.return_, 1) := by decide +kernel
theorem d_ST_addSeed_0 : decode b_ST_addSeed 0 = .ok (.aload_n 0, 1) := by decide +kernel
theorem d_ST_addSeed_1 : decode b_ST_addSeed 1 = .ok (.getfield 34, 3) := by decide +kernel
theorem d_ST_addSeed_4 : decode b_ST_addSeed 4 = .ok (.sipush 1024, 3) := by decide +kernel
theorem d_ST_addSeed_7 : decode b_ST_addSeed 7 = .ok (.iload_n 1, 1) := by decide +kernel
theorem d_ST_addSeed_8 : decode b_ST_addSeed 8 = .ok (.iadd, 1) := by decide +kernel
theorem d_ST_addSeed_9 : decode b_ST_addSeed 9 = .ok (.iaload, 1) := by decide +kernel
theorem d_ST_addSeed_10 : decode b_ST_addSeed 10 = .ok (.aload_n 0, 1) := by decide +kernel
theorem d_ST_addSeed_11 : decode b_ST_addSeed 11 = .ok (.getfield 123, 3) := by decide +kernel
theorem d_ST_addSeed_14 : decode b_ST_addSeed 14 = .ok (.if_icmp .eq 49, 3) := by decide +kernel
theorem d_ST_addSeed_17 : decode b_ST_addSeed 17 = .ok (.aload_n 0, 1) := by decide +kernel
theorem d_ST_addSeed_18 : decode b_ST_addSeed 18 = .ok (.getfield 126, 3) := by decide +kernel
theorem d_ST_addSeed_21 : decode b_ST_addSeed 21 = .ok (.aload_n 0, 1) := by decide +kernel
theorem d_ST_addSeed_22 : decode b_ST_addSeed 22 = .ok (.getfield 31, 3) := by decide +kernel
theorem d_ST_addSeed_25 : decode b_ST_addSeed 25 = .ok (.arraylength, 1) := by decide +kernel
theorem d_ST_addSeed_26 : decode b_ST_addSeed 26 = .ok (.if_icmp .ge 37, 3) := by decide +kernel
theorem d_ST_addSeed_29 : decode b_ST_addSeed 29 = .ok (.aload_n 0, 1) := by decide +kernel
theorem d_ST_addSeed_30 : decode b_ST_addSeed 30 = .ok (.getfield 34, 3) := by decide +kernel
theorem d_ST_addSeed_33 : decode b_ST_addSeed 33 = .ok (.sipush 1024, 3) := by decide +kernel
theorem d_ST_addSeed_36 : decode b_ST_addSeed 36 = .ok (.iload_n 1, 1) := by decide +kernel
theorem d_ST_addSeed_37 : decode b_ST_addSeed 37 = .ok (.iadd, 1) := by decide +kernel
theorem d_ST_addSeed_38 : decode b_ST_addSeed 38 = .ok (.aload_n 0, 1) := by decide +kernel
theorem d_ST_addSeed_39 : decode b_ST_addSeed 39 = .ok (.getfield 123, 3) := by decide +kernel
theorem d_ST_addSeed_42 : decode b_ST_addSeed 42 = .ok (.iastore, 1) := by decide +kernel
theorem d_ST_addSeed_43 : decode b_ST_addSeed 43 = .ok (.aload_n 0, 1) := by decide +kernel
theorem d_ST_addSeed_44 : decode b_ST_addSeed 44 = .ok (.getfield 31, 3) := by decide +kernel
theorem d_ST_addSeed_47 : decode b_ST_addSeed 47 = .ok (.aload_n 0, 1) := by decide +kernel
theorem d_ST_addSeed_48 : decode b_ST_addSeed 48 = .ok (.getfield 126, 3) := by decide +kernel
theorem d_ST_addSeed_51 : decode b_ST_addSeed 51 = .ok (.iload_n 1, 1) := by decide +kernel
theorem d_ST_addSeed_52 : decode b_ST_addSeed 52 = .ok (.iastore, 1) := by decide +kernel
theorem d_ST_addSeed_53 : decode b_ST_addSeed 53 = .ok (.aload_n 0, 1) := by decide +kernel
theorem d_ST_addSeed_54 : decode b_ST_addSeed 54 = .ok (.dup, 1) := by decide +kernel
theorem d_ST_addSeed_55 : decode b_ST_addSeed 55 = .ok (.getfield 126, 3) := by decide +kernel
theorem d_ST_addSeed_58 : decode b_ST_addSeed 58 = .ok (.iconst 1, 1) := by decide +kernel
theorem d_ST_addSeed_59 : decode b_ST_addSeed 59 = .ok (.iadd, 1) := by decide +kernel
theorem d_ST_addSeed_60 : decode b_ST_addSeed 60 = .ok (.putfield 126, 3) := by decide +kernel
theorem d_ST_addSeed_63 : decode b_ST_addSeed 63 = .ok (.return_, 1) := by decide +kernel
theorem d_ST_aheadOf_0 : decode b_ST_aheadOf 0 = .ok (.aload_n 0, 1) := by decide +kernel
theorem d_ST_aheadOf_1 : decode b_ST_aheadOf 1 = .ok (.getfield 74, 3) := by decide +kernel
theorem d_ST_aheadOf_4 : decode b_ST_aheadOf 4 = .ok (.getfield 142, 3) := by decide +kernel
theorem d_ST_aheadOf_7 : decode b_ST_aheadOf 7 = .ok (.ifCond .eq 8, 3) := by decide +kernel
theorem d_ST_aheadOf_10 : decode b_ST_aheadOf 10 = .ok (.iload_n 1, 1) := by decide +kernel
theorem d_ST_aheadOf_11 : decode b_ST_aheadOf 11 = .ok (.iconst 5, 1) := by decide +kernel
theorem d_ST_aheadOf_12 : decode b_ST_aheadOf 12 = .ok (.if_icmp .ge 5, 3) := by decide +kernel
theorem d_ST_aheadOf_15 : decode b_ST_aheadOf 15 = .ok (.iconst 0, 1) := by decide +kernel
theorem d_ST_aheadOf_16 : decode b_ST_aheadOf 16 = .ok (.ireturn, 1) := by decide +kernel
theorem d_ST_aheadOf_17 : decode b_ST_aheadOf 17 = .ok (.aload_n 0, 1) := by decide +kernel
theorem d_ST_aheadOf_18 : decode b_ST_aheadOf 18 = .ok (.getfield 15, 3) := by decide +kernel
theorem d_ST_aheadOf_21 : decode b_ST_aheadOf 21 = .ok (.iload_n 1, 1) := by decide +kernel
theorem d_ST_aheadOf_22 : decode b_ST_aheadOf 22 = .ok (.iconst 5, 1) := by decide +kernel
theorem d_ST_aheadOf_23 : decode b_ST_aheadOf 23 = .ok (.isub, 1) := by decide +kernel
theorem d_ST_aheadOf_24 : decode b_ST_aheadOf 24 = .ok (.iaload, 1) := by decide +kernel
theorem d_ST_aheadOf_25 : decode b_ST_aheadOf 25 = .ok (.istore_n 2, 1) := by decide +kernel
theorem d_ST_aheadOf_26 : decode b_ST_aheadOf 26 = .ok (.iload_n 2, 1) := by decide +kernel
theorem d_ST_aheadOf_27 : decode b_ST_aheadOf 27 = .ok (.bipush 10, 2) := by decide +kernel
theorem d_ST_aheadOf_29 : decode b_ST_aheadOf 29 = .ok (.if_icmp .ne 5, 3) := by decide +kernel
theorem d_ST_aheadOf_32 : decode b_ST_aheadOf 32 = .ok (.iconst 2, 1) := by decide +kernel
theorem d_ST_aheadOf_33 : decode b_ST_aheadOf 33 = .ok (.ireturn, 1) := by decide +kernel
theorem d_ST_aheadOf_34 : decode b_ST_aheadOf 34 = .ok (.iload_n 2, 1) := by decide +kernel
theorem d_ST_aheadOf_35 : decode b_ST_aheadOf 35 = .ok (.invokestatic 161, 3) := by decide +kernel
theorem d_ST_aheadOf_38 : decode b_ST_aheadOf 38 = .ok (.ifCond .eq 7, 3) := by decide +kernel
theorem d_ST_aheadOf_41 : decode b_ST_aheadOf 41 = .ok (.iconst 4, 1) := by decide +kernel
theorem d_ST_aheadOf_42 : decode b_ST_aheadOf 42 = .ok (.goto 4, 3) := by decide +kernel
theorem d_ST_aheadOf_45 : decode b_ST_aheadOf 45 = .ok (.iconst 0, 1) := by decide +kernel
theorem d_ST_aheadOf_46 : decode b_ST_aheadOf 46 = .ok (.ireturn, 1) := by decide +kernel
theorem d_ST_findCuts_0 : decode b_ST_findCuts 0 = .ok (.aload_n 0, 1) := by decide +kernel
theorem d_ST_findCuts_1 : decode b_ST_findCuts 1 = .ok (.iconst 0, 1) := by decide +kernel
theorem d_ST_findCuts_2 : decode b_ST_findCuts 2 = .ok (.putfield 63, 3) := by decide +kernel
theorem d_ST_findCuts_5 : decode b_ST_findCuts 5 = .ok (.iconst 0, 1) := by decide +kernel
theorem d_ST_findCuts_6 : decode b_ST_findCuts 6 = .ok (.istore_n 1, 1) := by decide +kernel
theorem d_ST_findCuts_7 : decode b_ST_findCuts 7 = .ok (.iload_n 1, 1) := by decide +kernel
theorem d_ST_findCuts_8 : decode b_ST_findCuts 8 = .ok (.getstatic 87, 3) := by decide +kernel
theorem d_ST_findCuts_11 : decode b_ST_findCuts 11 = .ok (.arraylength, 1) := by decide +kernel
theorem d_ST_findCuts_12 : decode b_ST_findCuts 12 = .ok (.if_icmp .ge 18, 3) := by decide +kernel
theorem d_ST_findCuts_15 : decode b_ST_findCuts 15 = .ok (.aload_n 0, 1) := by decide +kernel
theorem d_ST_findCuts_16 : decode b_ST_findCuts 16 = .ok (.getstatic 87, 3) := by decide +kernel
theorem d_ST_findCuts_19 : decode b_ST_findCuts 19 = .ok (.iload_n 1, 1) := by decide +kernel
theorem d_ST_findCuts_20 : decode b_ST_findCuts 20 = .ok (.iaload, 1) := by decide +kernel
theorem d_ST_findCuts_21 : decode b_ST_findCuts 21 = .ok (.invokevirtual 90, 3) := by decide +kernel
theorem d_ST_findCuts_24 : decode b_ST_findCuts 24 = .ok (.iinc 1 1, 3) := by decide +kernel
theorem d_ST_findCuts_27 : decode b_ST_findCuts 27 = .ok (.goto (-20), 3) := by decide +kernel
theorem d_ST_findCuts_30 : decode b_ST_findCuts 30 = .ok (.iconst 0, 1) := by decide +kernel
theorem d_ST_findCuts_31 : decode b_ST_findCuts 31 = .ok (.istore_n 1, 1) := by decide +kernel
theorem d_ST_findCuts_32 : decode b_ST_findCuts 32 = .ok (.iload_n 1, 1) := by decide +kernel
theorem d_ST_findCuts_33 : decode b_ST_findCuts 33 = .ok (.aload_n 0, 1) := by decide +kernel
theorem d_ST_findCuts_34 : decode b_ST_findCuts 34 = .ok (.getfield 74, 3) := by decide +kernel
theorem d_ST_findCuts_37 : decode b_ST_findCuts 37 = .ok (.getfield 94, 3) := by decide +kernel
theorem d_ST_findCuts_40 : decode b_ST_findCuts 40 = .ok (.if_icmp .ge 49, 3) := by decide +kernel
theorem d_ST_findCuts_43 : decode b_ST_findCuts 43 = .ok (.aload_n 0, 1) := by decide +kernel
theorem d_ST_findCuts_44 : decode b_ST_findCuts 44 = .ok (.getfield 74, 3) := by decide +kernel
theorem d_ST_findCuts_47 : decode b_ST_findCuts 47 = .ok (.getfield 95, 3) := by decide +kernel
theorem d_ST_findCuts_50 : decode b_ST_findCuts 50 = .ok (.iload_n 1, 1) := by decide +kernel
theorem d_ST_findCuts_51 : decode b_ST_findCuts 51 = .ok (.iaload, 1) := by decide +kernel
theorem d_ST_findCuts_52 : decode b_ST_findCuts 52 = .ok (.ifCond .ne 31, 3) := by decide +kernel
theorem d_ST_findCuts_55 : decode b_ST_findCuts 55 = .ok (.aload_n 0, 1) := by decide +kernel
theorem d_ST_findCuts_56 : decode b_ST_findCuts 56 = .ok (.aload_n 0, 1) := by decide +kernel
theorem d_ST_findCuts_57 : decode b_ST_findCuts 57 = .ok (.getfield 74, 3) := by decide +kernel
theorem d_ST_findCuts_60 : decode b_ST_findCuts 60 = .ok (.getfield 98, 3) := by decide +kernel
theorem d_ST_findCuts_63 : decode b_ST_findCuts 63 = .ok (.iload_n 1, 1) := by decide +kernel
theorem d_ST_findCuts_64 : decode b_ST_findCuts 64 = .ok (.iaload, 1) := by decide +kernel
theorem d_ST_findCuts_65 : decode b_ST_findCuts 65 = .ok (.invokevirtual 90, 3) := by decide +kernel
theorem d_ST_findCuts_68 : decode b_ST_findCuts 68 = .ok (.aload_n 0, 1) := by decide +kernel
theorem d_ST_findCuts_69 : decode b_ST_findCuts 69 = .ok (.aload_n 0, 1) := by decide +kernel
theorem d_ST_findCuts_70 : decode b_ST_findCuts 70 = .ok (.getfield 74, 3) := by decide +kernel
theorem d_ST_findCuts_73 : decode b_ST_findCuts 73 = .ok (.getfield 98, 3) := by decide +kernel
theorem d_ST_findCuts_76 : decode b_ST_findCuts 76 = .ok (.iload_n 1, 1) := by decide +kernel
theorem d_ST_findCuts_77 : decode b_ST_findCuts 77 = .ok (.iaload, 1) := by decide +kernel
theorem d_ST_findCuts_78 : decode b_ST_findCuts 78 = .ok (.iconst 1, 1) := by decide +kernel
theorem d_ST_findCuts_79 : decode b_ST_findCuts 79 = .ok (.iadd, 1) := by decide +kernel
theorem d_ST_findCuts_80 : decode b_ST_findCuts 80 = .ok (.invokevirtual 90, 3) := by decide +kernel
theorem d_ST_findCuts_83 : decode b_ST_findCuts 83 = .ok (.iinc 1 1, 3) := by decide +kernel
theorem d_ST_findCuts_86 : decode b_ST_findCuts 86 = .ok (.goto (-54), 3) := by decide +kernel
theorem d_ST_findCuts_89 : decode b_ST_findCuts 89 = .ok (.iconst 0, 1) := by decide +kernel
theorem d_ST_findCuts_90 : decode b_ST_findCuts 90 = .ok (.istore_n 1, 1) := by decide +kernel
theorem d_ST_findCuts_91 : decode b_ST_findCuts 91 = .ok (.iconst 0, 1) := by decide +kernel
theorem d_ST_findCuts_92 : decode b_ST_findCuts 92 = .ok (.istore_n 2, 1) := by decide +kernel
theorem d_ST_findCuts_93 : decode b_ST_findCuts 93 = .ok (.iload_n 2, 1) := by decide +kernel
theorem d_ST_findCuts_94 : decode b_ST_findCuts 94 = .ok (.aload_n 0, 1) := by decide +kernel
theorem d_ST_findCuts_95 : decode b_ST_findCuts 95 = .ok (.getfield 74, 3) := by decide +kernel
theorem d_ST_findCuts_98 : decode b_ST_findCuts 98 = .ok (.getfield 101, 3) := by decide +kernel
theorem d_ST_findCuts_101 : decode b_ST_findCuts 101 = .ok (.if_icmp .ge 89, 3) := by decide +kernel
theorem d_ST_findCuts_104 : decode b_ST_findCuts 104 = .ok (.iload_n 1, 1) := by decide +kernel
theorem d_ST_findCuts_105 : decode b_ST_findCuts 105 = .ok (.aload_n 0, 1) := by decide +kernel
theorem d_ST_findCuts_106 : decode b_ST_findCuts 106 = .ok (.getfield 74, 3) := by decide +kernel
theorem d_ST_findCuts_109 : decode b_ST_findCuts 109 = .ok (.getfield 101, 3) := by decide +kernel
theorem d_ST_findCuts_112 : decode b_ST_findCuts 112 = .ok (.if_icmp .ge 78, 3) := by decide +kernel
theorem d_ST_findCuts_115 : decode b_ST_findCuts 115 = .ok (.iload_n 1, 1) := by decide +kernel
theorem d_ST_findCuts_116 : decode b_ST_findCuts 116 = .ok (.iconst 1, 1) := by decide +kernel
theorem d_ST_findCuts_117 : decode b_ST_findCuts 117 = .ok (.iadd, 1) := by decide +kernel
theorem d_ST_findCuts_118 : decode b_ST_findCuts 118 = .ok (.iconst 2, 1) := by decide +kernel
theorem d_ST_findCuts_119 : decode b_ST_findCuts 119 = .ok (.aload_n 0, 1) := by decide +kernel
theorem d_ST_findCuts_120 : decode b_ST_findCuts 120 = .ok (.getfield 74, 3) := by decide +kernel
theorem d_ST_findCuts_123 : decode b_ST_findCuts 123 = .ok (.getfield 104, 3) := by decide +kernel
theorem d_ST_findCuts_126 : decode b_ST_findCuts 126 = .ok (.iload_n 1, 1) := by decide +kernel
theorem d_ST_findCuts_127 : decode b_ST_findCuts 127 = .ok (.iaload, 1) := by decide +kernel
theorem d_ST_findCuts_128 : decode b_ST_findCuts 128 = .ok (.imul, 1) := by decide +kernel
theorem d_ST_findCuts_129 : decode b_ST_findCuts 129 = .ok (.iadd, 1) := by decide +kernel
theorem d_ST_findCuts_130 : decode b_ST_findCuts 130 = .ok (.istore_n 3, 1) := by decide +kernel
theorem d_ST_findCuts_131 : decode b_ST_findCuts 131 = .ok (.iload_n 1, 1) := by decide +kernel
theorem d_ST_findCuts_132 : decode b_ST_findCuts 132 = .ok (.iconst 1, 1) := by decide +kernel
theorem d_ST_findCuts_133 : decode b_ST_findCuts 133 = .ok (.iadd, 1) := by decide +kernel
theorem d_ST_findCuts_134 : decode b_ST_findCuts 134 = .ok (.istore 4, 2) := by decide +kernel
theorem d_ST_findCuts_136 : decode b_ST_findCuts 136 = .ok (.iload 4, 2) := by decide +kernel
theorem d_ST_findCuts_138 : decode b_ST_findCuts 138 = .ok (.iconst 1, 1) := by decide +kernel
theorem d_ST_findCuts_139 : decode b_ST_findCuts 139 = .ok (.iadd, 1) := by decide +kernel
theorem d_ST_findCuts_140 : decode b_ST_findCuts 140 = .ok (.iload_n 3, 1) := by decide +kernel
theorem d_ST_findCuts_141 : decode b_ST_findCuts 141 = .ok (.if_icmp .ge 41, 3) := by decide +kernel
theorem d_ST_findCuts_144 : decode b_ST_findCuts 144 = .ok (.aload_n 0, 1) := by decide +kernel
theorem d_ST_findCuts_145 : decode b_ST_findCuts 145 = .ok (.aload_n 0, 1) := by decide +kernel
theorem d_ST_findCuts_146 : decode b_ST_findCuts 146 = .ok (.getfield 74, 3) := by decide +kernel
theorem d_ST_findCuts_149 : decode b_ST_findCuts 149 = .ok (.getfield 104, 3) := by decide +kernel
theorem d_ST_findCuts_152 : decode b_ST_findCuts 152 = .ok (.iload 4, 2) := by decide +kernel
theorem d_ST_findCuts_154 : decode b_ST_findCuts 154 = .ok (.iaload, 1) := by decide +kernel
theorem d_ST_findCuts_155 : decode b_ST_findCuts 155 = .ok (.invokevirtual 90, 3) := by decide +kernel
theorem d_ST_findCuts_158 : decode b_ST_findCuts 158 = .ok (.aload_n 0, 1) := by decide +kernel
theorem d_ST_findCuts_159 : decode b_ST_findCuts 159 = .ok (.aload_n 0, 1) := by decide +kernel
theorem d_ST_findCuts_160 : decode b_ST_findCuts 160 = .ok (.getfield 74, 3) := by decide +kernel
theorem d_ST_findCuts_163 : decode b_ST_findCuts 163 = .ok (.getfield 104, 3) := by decide +kernel
theorem d_ST_findCuts_166 : decode b_ST_findCuts 166 = .ok (.iload 4, 2) := by decide +kernel
theorem d_ST_findCuts_168 : decode b_ST_findCuts 168 = .ok (.iconst 1, 1) := by decide +kernel
theorem d_ST_findCuts_169 : decode b_ST_findCuts 169 = .ok (.iadd, 1) := by decide +kernel
theorem d_ST_findCuts_170 : decode b_ST_findCuts 170 = .ok (.iaload, 1) := by decide +kernel
theorem d_ST_findCuts_171 : decode b_ST_findCuts 171 = .ok (.iconst 1, 1) := by decide +kernel
theorem d_ST_findCuts_172 : decode b_ST_findCuts 172 = .ok (.iadd, 1) := by decide +kernel
theorem d_ST_findCuts_173 : decode b_ST_findCuts 173 = .ok (.invokevirtual 90, 3) := by decide +kernel
theorem d_ST_findCuts_176 : decode b_ST_findCuts 176 = .ok (.iinc 4 2, 3) := by decide +kernel
theorem d_ST_findCuts_179 : decode b_ST_findCuts 179 = .ok (.goto (-43), 3) := by decide +kernel
theorem d_ST_findCuts_182 : decode b_ST_findCuts 182 = .ok (.iload_n 3, 1) := by decide +kernel
theorem d_ST_findCuts_183 : decode b_ST_findCuts 183 = .ok (.istore_n 1, 1) := by decide +kernel
theorem d_ST_findCuts_184 : decode b_ST_findCuts 184 = .ok (.iinc 2 1, 3) := by decide +kernel
theorem d_ST_findCuts_187 : decode b_ST_findCuts 187 = .ok (.goto (-94), 3) := by decide +kernel
theorem d_ST_findCuts_190 : decode b_ST_findCuts 190 = .ok (.return_, 1) := by decide +kernel
theorem d_ST_firstState_0 : decode b_ST_firstState 0 = .ok (.aload_n 0, 1) := by decide +kernel
theorem d_ST_firstState_1 : decode b_ST_firstState 1 = .ok (.dup, 1) := by decide +kernel
theorem d_ST_firstState_2 : decode b_ST_firstState 2 = .ok (.getfield 123, 3) := by decide +kernel
theorem d_ST_firstState_5 : decode b_ST_firstState 5 = .ok (.iconst 1, 1) := by decide +kernel
theorem d_ST_firstState_6 : decode b_ST_firstState 6 = .ok (.iadd, 1) := by decide +kernel
theorem d_ST_firstState_7 : decode b_ST_firstState 7 = .ok (.putfield 123, 3) := by decide +kernel
theorem d_ST_firstState_10 : decode b_ST_firstState 10 = .ok (.aload_n 0, 1) := by decide +kernel
theorem d_ST_firstState_11 : decode b_ST_firstState 11 = .ok (.iconst 0, 1) := by decide +kernel
theorem d_ST_firstState_12 : decode b_ST_firstState 12 = .ok (.putfield 126, 3) := by decide +kernel
theorem d_ST_firstState_15 : decode b_ST_firstState 15 = .ok (.aload_n 0, 1) := by decide +kernel
theorem d_ST_firstState_16 : decode b_ST_firstState 16 = .ok (.getfield 70, 3) := by decide +kernel
theorem d_ST_firstState_19 : decode b_ST_firstState 19 = .ok (.ifCond .ne 14, 3) := by decide +kernel
theorem d_ST_firstState_22 : decode b_ST_firstState 22 = .ok (.aload_n 0, 1) := by decide +kernel
theorem d_ST_firstState_23 : decode b_ST_firstState 23 = .ok (.aload_n 0, 1) := by decide +kernel
theorem d_ST_firstState_24 : decode b_ST_firstState 24 = .ok (.getfield 74, 3) := by decide +kernel
theorem d_ST_firstState_27 : decode b_ST_firstState 27 = .ok (.getfield 129, 3) := by decide +kernel
theorem d_ST_firstState_30 : decode b_ST_firstState 30 = .ok (.invokevirtual 132, 3) := by decide +kernel
theorem d_ST_firstState_33 : decode b_ST_firstState 33 = .ok (.iload_n 2, 1) := by decide +kernel
theorem d_ST_firstState_34 : decode b_ST_firstState 34 = .ok (.ifCond .ne 7, 3) := by decide +kernel
theorem d_ST_firstState_37 : decode b_ST_firstState 37 = .ok (.iconst 1, 1) := by decide +kernel
theorem d_ST_firstState_38 : decode b_ST_firstState 38 = .ok (.goto 4, 3) := by decide +kernel
theorem d_ST_firstState_41 : decode b_ST_firstState 41 = .ok (.iconst 0, 1) := by decide +kernel
theorem d_ST_firstState_42 : decode b_ST_firstState 42 = .ok (.istore_n 3, 1) := by decide +kernel
theorem d_ST_firstState_43 : decode b_ST_firstState 43 = .ok (.iload_n 3, 1) := by decide +kernel
theorem d_ST_firstState_44 : decode b_ST_firstState 44 = .ok (.aload_n 1, 1) := by decide +kernel
theorem d_ST_firstState_45 : decode b_ST_firstState 45 = .ok (.iload_n 2, 1) := by decide +kernel
theorem d_ST_firstState_46 : decode b_ST_firstState 46 = .ok (.iconst 1, 1) := by decide +kernel
theorem d_ST_firstState_47 : decode b_ST_firstState 47 = .ok (.isub, 1) := by decide +kernel
theorem d_ST_firstState_48 : decode b_ST_firstState 48 = .ok (.invokevirtual 135, 3) := by decide +kernel
theorem d_ST_firstState_51 : decode b_ST_firstState 51 = .ok (.ifCond .eq 7, 3) := by decide +kernel
theorem d_ST_firstState_54 : decode b_ST_firstState 54 = .ok (.iconst 2, 1) := by decide +kernel
theorem d_ST_firstState_55 : decode b_ST_firstState 55 = .ok (.goto 4, 3) := by decide +kernel
theorem d_ST_firstState_58 : decode b_ST_firstState 58 = .ok (.iconst 0, 1) := by decide +kernel
theorem d_ST_firstState_59 : decode b_ST_firstState 59 = .ok (.ior, 1) := by decide +kernel
theorem d_ST_firstState_60 : decode b_ST_firstState 60 = .ok (.istore_n 3, 1) := by decide +kernel
theorem d_ST_firstState_61 : decode b_ST_firstState 61 = .ok (.iload_n 3, 1) := by decide +kernel
theorem d_ST_firstState_62 : decode b_ST_firstState 62 = .ok (.aload_n 1, 1) := by decide +kernel
theorem d_ST_firstState_63 : decode b_ST_firstState 63 = .ok (.iload_n 2, 1) := by decide +kernel
theorem d_ST_firstState_64 : decode b_ST_firstState 64 = .ok (.iconst 1, 1) := by decide +kernel
theorem d_ST_firstState_65 : decode b_ST_firstState 65 = .ok (.isub, 1) := by decide +kernel
theorem d_ST_firstState_66 : decode b_ST_firstState 66 = .ok (.invokevirtual 139, 3) := by decide +kernel
theorem d_ST_firstState_69 : decode b_ST_firstState 69 = .ok (.ifCond .eq 7, 3) := by decide +kernel
theorem d_ST_firstState_72 : decode b_ST_firstState 72 = .ok (.iconst 4, 1) := by decide +kernel
theorem d_ST_firstState_73 : decode b_ST_firstState 73 = .ok (.goto 4, 3) := by decide +kernel
theorem d_ST_firstState_76 : decode b_ST_firstState 76 = .ok (.iconst 0, 1) := by decide +kernel
theorem d_ST_firstState_77 : decode b_ST_firstState 77 = .ok (.ior, 1) := by decide +kernel
theorem d_ST_firstState_78 : decode b_ST_firstState 78 = .ok (.istore_n 3, 1) := by decide +kernel
theorem d_ST_firstState_79 : decode b_ST_firstState 79 = .ok (.aload_n 0, 1) := by decide +kernel
theorem d_ST_firstState_80 : decode b_ST_firstState 80 = .ok (.aload_n 0, 1) := by decide +kernel
theorem d_ST_firstState_81 : decode b_ST_firstState 81 = .ok (.getfield 74, 3) := by decide +kernel
theorem d_ST_firstState_84 : decode b_ST_firstState 84 = .ok (.getfield 142, 3) := by decide +kernel
theorem d_ST_firstState_87 : decode b_ST_firstState 87 = .ok (.ifCond .eq 7, 3) := by decide +kernel
theorem d_ST_firstState_90 : decode b_ST_firstState 90 = .ok (.iload_n 3, 1) := by decide +kernel
theorem d_ST_firstState_91 : decode b_ST_firstState 91 = .ok (.goto 4, 3) := by decide +kernel
theorem d_ST_firstState_94 : decode b_ST_firstState 94 = .ok (.iconst 0, 1) := by decide +kernel
theorem d_ST_firstState_95 : decode b_ST_firstState 95 = .ok (.invokevirtual 145, 3) := by decide +kernel
theorem d_ST_firstState_98 : decode b_ST_firstState 98 = .ok (.ireturn, 1) := by decide +kernel
theorem d_ST_follow_0 : decode b_ST_follow 0 = .ok (.aload_n 0, 1) := by decide +kernel
theorem d_ST_follow_1 : decode b_ST_follow 1 = .ok (.getfield 37, 3) := by decide +kernel
theorem d_ST_follow_4 : decode b_ST_follow 4 = .ok (.iconst 0, 1) := by decide +kernel
theorem d_ST_follow_5 : decode b_ST_follow 5 = .ok (.iload_n 1, 1) := by decide +kernel
theorem d_ST_follow_6 : decode b_ST_follow 6 = .ok (.iastore, 1) := by decide +kernel
theorem d_ST_follow_7 : decode b_ST_follow 7 = .ok (.iconst 1, 1) := by decide +kernel
theorem d_ST_follow_8 : decode b_ST_follow 8 = .ok (.istore 4, 2) := by decide +kernel
theorem d_ST_follow_10 : decode b_ST_follow 10 = .ok (.iconst 0, 1) := by decide +kernel
theorem d_ST_follow_11 : decode b_ST_follow 11 = .ok (.istore 5, 2) := by decide +kernel
theorem d_ST_follow_13 : decode b_ST_follow 13 = .ok (.iload 5, 2) := by decide +kernel
theorem d_ST_follow_15 : decode b_ST_follow 15 = .ok (.sipush 1616, 3) := by decide +kernel
theorem d_ST_follow_18 : decode b_ST_follow 18 = .ok (.if_icmp .ge 196, 3) := by decide +kernel
theorem d_ST_follow_21 : decode b_ST_follow 21 = .ok (.iload 4, 2) := by decide +kernel
theorem d_ST_follow_23 : decode b_ST_follow 23 = .ok (.ifCond .le 191, 3) := by decide +kernel
theorem d_ST_follow_26 : decode b_ST_follow 26 = .ok (.iinc 4 (-1), 3) := by decide +kernel
theorem d_ST_follow_29 : decode b_ST_follow 29 = .ok (.aload_n 0, 1) := by decide +kernel
theorem d_ST_follow_30 : decode b_ST_follow 30 = .ok (.getfield 37, 3) := by decide +kernel
theorem d_ST_follow_33 : decode b_ST_follow 33 = .ok (.iload 4, 2) := by decide +kernel
theorem d_ST_follow_35 : decode b_ST_follow 35 = .ok (.iaload, 1) := by decide +kernel
theorem d_ST_follow_36 : decode b_ST_follow 36 = .ok (.istore 6, 2) := by decide +kernel
theorem d_ST_follow_38 : decode b_ST_follow 38 = .ok (.aload_n 0, 1) := by decide +kernel
theorem d_ST_follow_39 : decode b_ST_follow 39 = .ok (.getfield 34, 3) := by decide +kernel
theorem d_ST_follow_42 : decode b_ST_follow 42 = .ok (.iload 6, 2) := by decide +kernel
theorem d_ST_follow_44 : decode b_ST_follow 44 = .ok (.iaload, 1) := by decide +kernel
theorem d_ST_follow_45 : decode b_ST_follow 45 = .ok (.aload_n 0, 1) := by decide +kernel
theorem d_ST_follow_46 : decode b_ST_follow 46 = .ok (.getfield 123, 3) := by decide +kernel
theorem d_ST_follow_49 : decode b_ST_follow 49 = .ok (.if_icmp .ne 6, 3) := by decide +kernel
theorem d_ST_follow_52 : decode b_ST_follow 52 = .ok (.goto 156, 3) := by decide +kernel
theorem d_ST_follow_55 : decode b_ST_follow 55 = .ok (.aload_n 0, 1) := by decide +kernel
theorem d_ST_follow_56 : decode b_ST_follow 56 = .ok (.dup, 1) := by decide +kernel
theorem d_ST_follow_57 : decode b_ST_follow 57 = .ok (.getfield 56, 3) := by decide +kernel
theorem d_ST_follow_60 : decode b_ST_follow 60 = .ok (.lconst 1, 1) := by decide +kernel
theorem d_ST_follow_61 : decode b_ST_follow 61 = .ok (.ladd, 1) := by decide +kernel
theorem d_ST_follow_62 : decode b_ST_follow 62 = .ok (.putfield 56, 3) := by decide +kernel
theorem d_ST_follow_65 : decode b_ST_follow 65 = .ok (.aload_n 0, 1) := by decide +kernel
theorem d_ST_follow_66 : decode b_ST_follow 66 = .ok (.getfield 34, 3) := by decide +kernel
theorem d_ST_follow_69 : decode b_ST_follow 69 = .ok (.iload 6, 2) := by decide +kernel
theorem d_ST_follow_71 : decode b_ST_follow 71 = .ok (.aload_n 0, 1) := by decide +kernel
theorem d_ST_follow_72 : decode b_ST_follow 72 = .ok (.getfield 123, 3) := by decide +kernel
theorem d_ST_follow_75 : decode b_ST_follow 75 = .ok (.iastore, 1) := by decide +kernel
theorem d_ST_follow_76 : decode b_ST_follow 76 = .ok (.aload_n 0, 1) := by decide +kernel
theorem d_ST_follow_77 : decode b_ST_follow 77 = .ok (.getfield 74, 3) := by decide +kernel
theorem d_ST_follow_80 : decode b_ST_follow 80 = .ok (.getfield 95, 3) := by decide +kernel
theorem d_ST_follow_83 : decode b_ST_follow 83 = .ok (.iload 6, 2) := by decide +kernel
theorem d_ST_follow_85 : decode b_ST_follow 85 = .ok (.iaload, 1) := by decide +kernel
theorem d_ST_follow_86 : decode b_ST_follow 86 = .ok (.istore 7, 2) := by decide +kernel
theorem d_ST_follow_88 : decode b_ST_follow 88 = .ok (.iload 7, 2) := by decide +kernel
theorem d_ST_follow_90 : decode b_ST_follow 90 = .ok (.iconst 2, 1) := by decide +kernel
theorem d_ST_follow_91 : decode b_ST_follow 91 = .ok (.if_icmp .gt 13, 3) := by decide +kernel
theorem d_ST_follow_94 : decode b_ST_follow 94 = .ok (.aload_n 0, 1) := by decide +kernel
theorem d_ST_follow_95 : decode b_ST_follow 95 = .ok (.iload 6, 2) := by decide +kernel
theorem d_ST_follow_97 : decode b_ST_follow 97 = .ok (.iload_n 3, 1) := by decide +kernel
theorem d_ST_follow_98 : decode b_ST_follow 98 = .ok (.invokevirtual 164, 3) := by decide +kernel
theorem d_ST_follow_101 : decode b_ST_follow 101 = .ok (.goto 107, 3) := by decide +kernel
theorem d_ST_follow_104 : decode b_ST_follow 104 = .ok (.iload 7, 2) := by decide +kernel
theorem d_ST_follow_106 : decode b_ST_follow 106 = .ok (.bipush 8, 2) := by decide +kernel
theorem d_ST_follow_108 : decode b_ST_follow 108 = .ok (.if_icmp .ne 11, 3) := by decide +kernel
theorem d_ST_follow_111 : decode b_ST_follow 111 = .ok (.aload_n 0, 1) := by decide +kernel
theorem d_ST_follow_112 : decode b_ST_follow 112 = .ok (.iconst 1, 1) := by decide +kernel
theorem d_ST_follow_113 : decode b_ST_follow 113 = .ok (.putfield 148, 3) := by decide +kernel
theorem d_ST_follow_116 : decode b_ST_follow 116 = .ok (.goto 92, 3) := by decide +kernel
theorem d_ST_follow_119 : decode b_ST_follow 119 = .ok (.iload 7, 2) := by decide +kernel
theorem d_ST_follow_121 : decode b_ST_follow 121 = .ok (.bipush 9, 2) := by decide +kernel
theorem d_ST_follow_123 : decode b_ST_follow 123 = .ok (.if_icmp .eq 85, 3) := by decide +kernel
theorem d_ST_follow_126 : decode b_ST_follow 126 = .ok (.iload 7, 2) := by decide +kernel
theorem d_ST_follow_128 : decode b_ST_follow 128 = .ok (.iconst 3, 1) := by decide +kernel
theorem d_ST_follow_129 : decode b_ST_follow 129 = .ok (.if_icmp .ne 22, 3) := by decide +kernel
theorem d_ST_follow_132 : decode b_ST_follow 132 = .ok (.aload_n 0, 1) := by decide +kernel
theorem d_ST_follow_133 : decode b_ST_follow 133 = .ok (.aload_n 0, 1) := by decide +kernel
theorem d_ST_follow_134 : decode b_ST_follow 134 = .ok (.getfield 74, 3) := by decide +kernel
theorem d_ST_follow_137 : decode b_ST_follow 137 = .ok (.getfield 98, 3) := by decide +kernel
theorem d_ST_follow_140 : decode b_ST_follow 140 = .ok (.iload 6, 2) := by decide +kernel
theorem d_ST_follow_142 : decode b_ST_follow 142 = .ok (.iaload, 1) := by decide +kernel
theorem d_ST_follow_143 : decode b_ST_follow 143 = .ok (.iload_n 2, 1) := by decide +kernel
theorem d_ST_follow_144 : decode b_ST_follow 144 = .ok (.iload_n 3, 1) := by decide +kernel
theorem d_ST_follow_145 : decode b_ST_follow 145 = .ok (.invokevirtual 168, 3) := by decide +kernel
theorem d_ST_follow_148 : decode b_ST_follow 148 = .ok (.ifCond .eq 60, 3) := by decide +kernel
theorem d_ST_follow_151 : decode b_ST_follow 151 = .ok (.aload_n 0, 1) := by decide +kernel
theorem d_ST_follow_152 : decode b_ST_follow 152 = .ok (.getfield 37, 3) := by decide +kernel
theorem d_ST_follow_155 : decode b_ST_follow 155 = .ok (.iload 4, 2) := by decide +kernel
theorem d_ST_follow_157 : decode b_ST_follow 157 = .ok (.aload_n 0, 1) := by decide +kernel
theorem d_ST_follow_158 : decode b_ST_follow 158 = .ok (.getfield 74, 3) := by decide +kernel
theorem d_ST_follow_161 : decode b_ST_follow 161 = .ok (.getfield 155, 3) := by decide +kernel
theorem d_ST_follow_164 : decode b_ST_follow 164 = .ok (.iload 6, 2) := by decide +kernel
theorem d_ST_follow_166 : decode b_ST_follow 166 = .ok (.iaload, 1) := by decide +kernel
theorem d_ST_follow_167 : decode b_ST_follow 167 = .ok (.iastore, 1) := by decide +kernel
theorem d_ST_follow_168 : decode b_ST_follow 168 = .ok (.iinc 4 1, 3) := by decide +kernel
theorem d_ST_follow_171 : decode b_ST_follow 171 = .ok (.iload 7, 2) := by decide +kernel
theorem d_ST_follow_173 : decode b_ST_follow 173 = .ok (.bipush 6, 2) := by decide +kernel
theorem d_ST_follow_175 : decode b_ST_follow 175 = .ok (.if_icmp .ne 33, 3) := by decide +kernel
theorem d_ST_follow_178 : decode b_ST_follow 178 = .ok (.iload 4, 2) := by decide +kernel
theorem d_ST_follow_180 : decode b_ST_follow 180 = .ok (.aload_n 0, 1) := by decide +kernel
theorem d_ST_follow_181 : decode b_ST_follow 181 = .ok (.getfield 37, 3) := by decide +kernel
theorem d_ST_follow_184 : decode b_ST_follow 184 = .ok (.arraylength, 1) := by decide +kernel
theorem d_ST_follow_185 : decode b_ST_follow 185 = .ok (.if_icmp .ge 23, 3) := by decide +kernel
theorem d_ST_follow_188 : decode b_ST_follow 188 = .ok (.aload_n 0, 1) := by decide +kernel
theorem d_ST_follow_189 : decode b_ST_follow 189 = .ok (.getfield 37, 3) := by decide +kernel
theorem d_ST_follow_192 : decode b_ST_follow 192 = .ok (.iload 4, 2) := by decide +kernel
theorem d_ST_follow_194 : decode b_ST_follow 194 = .ok (.aload_n 0, 1) := by decide +kernel
theorem d_ST_follow_195 : decode b_ST_follow 195 = .ok (.getfield 74, 3) := by decide +kernel
theorem d_ST_follow_198 : decode b_ST_follow 198 = .ok (.getfield 98, 3) := by decide +kernel
theorem d_ST_follow_201 : decode b_ST_follow 201 = .ok (.iload 6, 2) := by decide +kernel
theorem d_ST_follow_203 : decode b_ST_follow 203 = .ok (.iaload, 1) := by decide +kernel
theorem d_ST_follow_204 : decode b_ST_follow 204 = .ok (.iastore, 1) := by decide +kernel
theorem d_ST_follow_205 : decode b_ST_follow 205 = .ok (.iinc 4 1, 3) := by decide +kernel
theorem d_ST_follow_208 : decode b_ST_follow 208 = .ok (.iinc 5 1, 3) := by decide +kernel
theorem d_ST_follow_211 : decode b_ST_follow 211 = .ok (.goto (-198), 3) := by decide +kernel
theorem d_ST_follow_214 : decode b_ST_follow 214 = .ok (.return_, 1) := by decide +kernel
theorem d_ST_hasSeeds_0 : decode b_ST_hasSeeds 0 = .ok (.aload_n 0, 1) := by decide +kernel
theorem d_ST_hasSeeds_1 : decode b_ST_hasSeeds 1 = .ok (.getfield 25, 3) := by decide +kernel
theorem d_ST_hasSeeds_4 : decode b_ST_hasSeeds 4 = .ok (.iload_n 1, 1) := by decide +kernel
theorem d_ST_hasSeeds_5 : decode b_ST_hasSeeds 5 = .ok (.iconst 1, 1) := by decide +kernel
theorem d_ST_hasSeeds_6 : decode b_ST_hasSeeds 6 = .ok (.iadd, 1) := by decide +kernel
theorem d_ST_hasSeeds_7 : decode b_ST_hasSeeds 7 = .ok (.iaload, 1) := by decide +kernel
theorem d_ST_hasSeeds_8 : decode b_ST_hasSeeds 8 = .ok (.aload_n 0, 1) := by decide +kernel
theorem d_ST_hasSeeds_9 : decode b_ST_hasSeeds 9 = .ok (.getfield 25, 3) := by decide +kernel
theorem d_ST_hasSeeds_12 : decode b_ST_hasSeeds 12 = .ok (.iload_n 1, 1) := by decide +kernel
theorem d_ST_hasSeeds_13 : decode b_ST_hasSeeds 13 = .ok (.iaload, 1) := by decide +kernel
theorem d_ST_hasSeeds_14 : decode b_ST_hasSeeds 14 = .ok (.isub, 1) := by decide +kernel
theorem d_ST_hasSeeds_15 : decode b_ST_hasSeeds 15 = .ok (.aload_n 0, 1) := by decide +kernel
theorem d_ST_hasSeeds_16 : decode b_ST_hasSeeds 16 = .ok (.getfield 126, 3) := by decide +kernel
theorem d_ST_hasSeeds_19 : decode b_ST_hasSeeds 19 = .ok (.if_icmp .ne 7, 3) := by decide +kernel
theorem d_ST_hasSeeds_22 : decode b_ST_hasSeeds 22 = .ok (.iconst 1, 1) := by decide +kernel
theorem d_ST_hasSeeds_23 : decode b_ST_hasSeeds 23 = .ok (.goto 4, 3) := by decide +kernel
theorem d_ST_hasSeeds_26 : decode b_ST_hasSeeds 26 = .ok (.iconst 0, 1) := by decide +kernel
theorem d_ST_hasSeeds_27 : decode b_ST_hasSeeds 27 = .ok (.istore_n 2, 1) := by decide +kernel
theorem d_ST_hasSeeds_28 : decode b_ST_hasSeeds 28 = .ok (.iconst 0, 1) := by decide +kernel
theorem d_ST_hasSeeds_29 : decode b_ST_hasSeeds 29 = .ok (.istore_n 3, 1) := by decide +kernel
theorem d_ST_hasSeeds_30 : decode b_ST_hasSeeds 30 = .ok (.iload_n 3, 1) := by decide +kernel
theorem d_ST_hasSeeds_31 : decode b_ST_hasSeeds 31 = .ok (.aload_n 0, 1) := by decide +kernel
theorem d_ST_hasSeeds_32 : decode b_ST_hasSeeds 32 = .ok (.getfield 126, 3) := by decide +kernel
theorem d_ST_hasSeeds_35 : decode b_ST_hasSeeds 35 = .ok (.if_icmp .ge 41, 3) := by decide +kernel
theorem d_ST_hasSeeds_38 : decode b_ST_hasSeeds 38 = .ok (.iload_n 2, 1) := by decide +kernel
theorem d_ST_hasSeeds_39 : decode b_ST_hasSeeds 39 = .ok (.ifCond .eq 37, 3) := by decide +kernel
theorem d_ST_hasSeeds_42 : decode b_ST_hasSeeds 42 = .ok (.aload_n 0, 1) := by decide +kernel
theorem d_ST_hasSeeds_43 : decode b_ST_hasSeeds 43 = .ok (.getfield 22, 3) := by decide +kernel
theorem d_ST_hasSeeds_46 : decode b_ST_hasSeeds 46 = .ok (.aload_n 0, 1) := by decide +kernel
theorem d_ST_hasSeeds_47 : decode b_ST_hasSeeds 47 = .ok (.getfield 25, 3) := by decide +kernel
theorem d_ST_hasSeeds_50 : decode b_ST_hasSeeds 50 = .ok (.iload_n 1, 1) := by decide +kernel
theorem d_ST_hasSeeds_51 : decode b_ST_hasSeeds 51 = .ok (.iaload, 1) := by decide +kernel
theorem d_ST_hasSeeds_52 : decode b_ST_hasSeeds 52 = .ok (.iload_n 3, 1) := by decide +kernel
theorem d_ST_hasSeeds_53 : decode b_ST_hasSeeds 53 = .ok (.iadd, 1) := by decide +kernel
theorem d_ST_hasSeeds_54 : decode b_ST_hasSeeds 54 = .ok (.iaload, 1) := by decide +kernel
theorem d_ST_hasSeeds_55 : decode b_ST_hasSeeds 55 = .ok (.aload_n 0, 1) := by decide +kernel
theorem d_ST_hasSeeds_56 : decode b_ST_hasSeeds 56 = .ok (.getfield 31, 3) := by decide +kernel
theorem d_ST_hasSeeds_59 : decode b_ST_hasSeeds 59 = .ok (.iload_n 3, 1) := by decide +kernel
theorem d_ST_hasSeeds_60 : decode b_ST_hasSeeds 60 = .ok (.iaload, 1) := by decide +kernel
theorem d_ST_hasSeeds_61 : decode b_ST_hasSeeds 61 = .ok (.if_icmp .ne 7, 3) := by decide +kernel
theorem d_ST_hasSeeds_64 : decode b_ST_hasSeeds 64 = .ok (.iconst 1, 1) := by decide +kernel
theorem d_ST_hasSeeds_65 : decode b_ST_hasSeeds 65 = .ok (.goto 4, 3) := by decide +kernel
theorem d_ST_hasSeeds_68 : decode b_ST_hasSeeds 68 = .ok (.iconst 0, 1) := by decide +kernel
theorem d_ST_hasSeeds_69 : decode b_ST_hasSeeds 69 = .ok (.istore_n 2, 1) := by decide +kernel
theorem d_ST_hasSeeds_70 : decode b_ST_hasSeeds 70 = .ok (.iinc 3 1, 3) := by decide +kernel
theorem d_ST_hasSeeds_73 : decode b_ST_hasSeeds 73 = .ok (.goto (-43), 3) := by decide +kernel
theorem d_ST_hasSeeds_76 : decode b_ST_hasSeeds 76 = .ok (.iload_n 2, 1) := by decide +kernel
theorem d_ST_hasSeeds_77 : decode b_ST_hasSeeds 77 = .ok (.ireturn, 1) := by decide +kernel
theorem d_ST_holdAtMost_0 : decode b_ST_holdAtMost 0 = .ok (.aload_n 0, 1) := by decide +kernel
theorem d_ST_holdAtMost_1 : decode b_ST_holdAtMost 1 = .ok (.iload_n 1, 1) := by decide +kernel
theorem d_ST_holdAtMost_2 : decode b_ST_holdAtMost 2 = .ok (.putfield 9, 3) := by decide +kernel
theorem d_ST_holdAtMost_5 : decode b_ST_holdAtMost 5 = .ok (.aload_n 0, 1) := by decide +kernel
theorem d_ST_holdAtMost_6 : decode b_ST_holdAtMost 6 = .ok (.iconst 0, 1) := by decide +kernel
theorem d_ST_holdAtMost_7 : decode b_ST_holdAtMost 7 = .ok (.putfield 40, 3) := by decide +kernel
theorem d_ST_holdAtMost_10 : decode b_ST_holdAtMost 10 = .ok (.return_, 1) := by decide +kernel
theorem d_ST_holds_0 : decode b_ST_holds 0 = .ok (.iload_n 3, 1) := by decide +kernel
theorem d_ST_holds_1 : decode b_ST_holds 1 = .ok (.iconst 5, 1) := by decide +kernel
theorem d_ST_holds_2 : decode b_ST_holds 2 = .ok (.if_icmp .lt 20, 3) := by decide +kernel
theorem d_ST_holds_5 : decode b_ST_holds 5 = .ok (.aload_n 0, 1) := by decide +kernel
theorem d_ST_holds_6 : decode b_ST_holds 6 = .ok (.getfield 15, 3) := by decide +kernel
theorem d_ST_holds_9 : decode b_ST_holds 9 = .ok (.iload_n 3, 1) := by decide +kernel
theorem d_ST_holds_10 : decode b_ST_holds 10 = .ok (.iconst 5, 1) := by decide +kernel
theorem d_ST_holds_11 : decode b_ST_holds 11 = .ok (.isub, 1) := by decide +kernel
theorem d_ST_holds_12 : decode b_ST_holds 12 = .ok (.iaload, 1) := by decide +kernel
theorem d_ST_holds_13 : decode b_ST_holds 13 = .ok (.bipush 10, 2) := by decide +kernel
theorem d_ST_holds_15 : decode b_ST_holds 15 = .ok (.if_icmp .ne 7, 3) := by decide +kernel
theorem d_ST_holds_18 : decode b_ST_holds 18 = .ok (.iconst 1, 1) := by decide +kernel
theorem d_ST_holds_19 : decode b_ST_holds 19 = .ok (.goto 4, 3) := by decide +kernel
theorem d_ST_holds_22 : decode b_ST_holds 22 = .ok (.iconst 0, 1) := by decide +kernel
theorem d_ST_holds_23 : decode b_ST_holds 23 = .ok (.istore 4, 2) := by decide +kernel
theorem d_ST_holds_25 : decode b_ST_holds 25 = .ok (.iload_n 3, 1) := by decide +kernel
theorem d_ST_holds_26 : decode b_ST_holds 26 = .ok (.iconst 5, 1) := by decide +kernel
theorem d_ST_holds_27 : decode b_ST_holds 27 = .ok (.if_icmp .lt 21, 3) := by decide +kernel
theorem d_ST_holds_30 : decode b_ST_holds 30 = .ok (.aload_n 0, 1) := by decide +kernel
theorem d_ST_holds_31 : decode b_ST_holds 31 = .ok (.getfield 15, 3) := by decide +kernel
theorem d_ST_holds_34 : decode b_ST_holds 34 = .ok (.iload_n 3, 1) := by decide +kernel
theorem d_ST_holds_35 : decode b_ST_holds 35 = .ok (.iconst 5, 1) := by decide +kernel
theorem d_ST_holds_36 : decode b_ST_holds 36 = .ok (.isub, 1) := by decide +kernel
theorem d_ST_holds_37 : decode b_ST_holds 37 = .ok (.iaload, 1) := by decide +kernel
theorem d_ST_holds_38 : decode b_ST_holds 38 = .ok (.invokestatic 161, 3) := by decide +kernel
theorem d_ST_holds_41 : decode b_ST_holds 41 = .ok (.ifCond .eq 7, 3) := by decide +kernel
theorem d_ST_holds_44 : decode b_ST_holds 44 = .ok (.iconst 1, 1) := by decide +kernel
theorem d_ST_holds_45 : decode b_ST_holds 45 = .ok (.goto 4, 3) := by decide +kernel
theorem d_ST_holds_48 : decode b_ST_holds 48 = .ok (.iconst 0, 1) := by decide +kernel
theorem d_ST_holds_49 : decode b_ST_holds 49 = .ok (.istore 5, 2) := by decide +kernel
theorem d_ST_holds_51 : decode b_ST_holds 51 = .ok (.iload_n 2, 1) := by decide +kernel
theorem d_ST_holds_52 : decode b_ST_holds 52 = .ok (.iconst 4, 1) := by decide +kernel
theorem d_ST_holds_53 : decode b_ST_holds 53 = .ok (.iand, 1) := by decide +kernel
theorem d_ST_holds_54 : decode b_ST_holds 54 = .ok (.ifCond .eq 7, 3) := by decide +kernel
theorem d_ST_holds_57 : decode b_ST_holds 57 = .ok (.iconst 1, 1) := by decide +kernel
theorem d_ST_holds_58 : decode b_ST_holds 58 = .ok (.goto 4, 3) := by decide +kernel
theorem d_ST_holds_61 : decode b_ST_holds 61 = .ok (.iconst 0, 1) := by decide +kernel
theorem d_ST_holds_62 : decode b_ST_holds 62 = .ok (.istore 6, 2) := by decide +kernel
theorem d_ST_holds_64 : decode b_ST_holds 64 = .ok (.iload_n 1, 1) := by decide +kernel
theorem d_ST_holds_65 : decode b_ST_holds 65 = .ok (.tableswitch 97 0 4 #[35, 47, 57, 69, 84], 35) := by decide +kernel
theorem d_ST_holds_100 : decode b_ST_holds 100 = .ok (.iload_n 2, 1) := by decide +kernel
theorem d_ST_holds_101 : decode b_ST_holds 101 = .ok (.iconst 1, 1) := by decide +kernel
theorem d_ST_holds_102 : decode b_ST_holds 102 = .ok (.iand, 1) := by decide +kernel
theorem d_ST_holds_103 : decode b_ST_holds 103 = .ok (.ifCond .eq 7, 3) := by decide +kernel
theorem d_ST_holds_106 : decode b_ST_holds 106 = .ok (.iconst 1, 1) := by decide +kernel
theorem d_ST_holds_107 : decode b_ST_holds 107 = .ok (.goto 4, 3) := by decide +kernel
theorem d_ST_holds_110 : decode b_ST_holds 110 = .ok (.iconst 0, 1) := by decide +kernel
theorem d_ST_holds_111 : decode b_ST_holds 111 = .ok (.ireturn, 1) := by decide +kernel
theorem d_ST_holds_112 : decode b_ST_holds 112 = .ok (.iload_n 3, 1) := by decide +kernel
theorem d_ST_holds_113 : decode b_ST_holds 113 = .ok (.ifCond .ne 7, 3) := by decide +kernel
theorem d_ST_holds_116 : decode b_ST_holds 116 = .ok (.iconst 1, 1) := by decide +kernel
theorem d_ST_holds_117 : decode b_ST_holds 117 = .ok (.goto 4, 3) := by decide +kernel
theorem d_ST_holds_120 : decode b_ST_holds 120 = .ok (.iconst 0, 1) := by decide +kernel
theorem d_ST_holds_121 : decode b_ST_holds 121 = .ok (.ireturn, 1) := by decide +kernel
theorem d_ST_holds_122 : decode b_ST_holds 122 = .ok (.iload_n 2, 1) := by decide +kernel
theorem d_ST_holds_123 : decode b_ST_holds 123 = .ok (.iconst 3, 1) := by decide +kernel
theorem d_ST_holds_124 : decode b_ST_holds 124 = .ok (.iand, 1) := by decide +kernel
theorem d_ST_holds_125 : decode b_ST_holds 125 = .ok (.ifCond .eq 7, 3) := by decide +kernel
theorem d_ST_holds_128 : decode b_ST_holds 128 = .ok (.iconst 1, 1) := by decide +kernel
theorem d_ST_holds_129 : decode b_ST_holds 129 = .ok (.goto 4, 3) := by decide +kernel
theorem d_ST_holds_132 : decode b_ST_holds 132 = .ok (.iconst 0, 1) := by decide +kernel
theorem d_ST_holds_133 : decode b_ST_holds 133 = .ok (.ireturn, 1) := by decide +kernel
theorem d_ST_holds_134 : decode b_ST_holds 134 = .ok (.iload_n 3, 1) := by decide +kernel
theorem d_ST_holds_135 : decode b_ST_holds 135 = .ok (.ifCond .eq 8, 3) := by decide +kernel
theorem d_ST_holds_138 : decode b_ST_holds 138 = .ok (.iload 4, 2) := by decide +kernel
theorem d_ST_holds_140 : decode b_ST_holds 140 = .ok (.ifCond .eq 7, 3) := by decide +kernel
theorem d_ST_holds_143 : decode b_ST_holds 143 = .ok (.iconst 1, 1) := by decide +kernel
theorem d_ST_holds_144 : decode b_ST_holds 144 = .ok (.goto 4, 3) := by decide +kernel
theorem d_ST_holds_147 : decode b_ST_holds 147 = .ok (.iconst 0, 1) := by decide +kernel
theorem d_ST_holds_148 : decode b_ST_holds 148 = .ok (.ireturn, 1) := by decide +kernel
theorem d_ST_holds_149 : decode b_ST_holds 149 = .ok (.iload 6, 2) := by decide +kernel
theorem d_ST_holds_151 : decode b_ST_holds 151 = .ok (.iload 5, 2) := by decide +kernel
theorem d_ST_holds_153 : decode b_ST_holds 153 = .ok (.if_icmp .eq 7, 3) := by decide +kernel
theorem d_ST_holds_156 : decode b_ST_holds 156 = .ok (.iconst 1, 1) := by decide +kernel
theorem d_ST_holds_157 : decode b_ST_holds 157 = .ok (.goto 4, 3) := by decide +kernel
theorem d_ST_holds_160 : decode b_ST_holds 160 = .ok (.iconst 0, 1) := by decide +kernel
theorem d_ST_holds_161 : decode b_ST_holds 161 = .ok (.ireturn, 1) := by decide +kernel
theorem d_ST_holds_162 : decode b_ST_holds 162 = .ok (.iload 6, 2) := by decide +kernel
theorem d_ST_holds_164 : decode b_ST_holds 164 = .ok (.iload 5, 2) := by decide +kernel
theorem d_ST_holds_166 : decode b_ST_holds 166 = .ok (.if_icmp .ne 7, 3) := by decide +kernel
theorem d_ST_holds_169 : decode b_ST_holds 169 = .ok (.iconst 1, 1) := by decide +kernel
theorem d_ST_holds_170 : decode b_ST_holds 170 = .ok (.goto 4, 3) := by decide +kernel
theorem d_ST_holds_173 : decode b_ST_holds 173 = .ok (.iconst 0, 1) := by decide +kernel
theorem d_ST_holds_174 : decode b_ST_holds 174 = .ok (.ireturn, 1) := by decide +kernel
theorem d_ST_keptState_0 : decode b_ST_keptState 0 = .ok (.iconst 0, 1) := by decide +kernel
theorem d_ST_keptState_1 : decode b_ST_keptState 1 = .ok (.istore_n 2, 1) := by decide +kernel
theorem d_ST_keptState_2 : decode b_ST_keptState 2 = .ok (.iload_n 2, 1) := by decide +kernel
theorem d_ST_keptState_3 : decode b_ST_keptState 3 = .ok (.aload_n 0, 1) := by decide +kernel
theorem d_ST_keptState_4 : decode b_ST_keptState 4 = .ok (.getfield 40, 3) := by decide +kernel
theorem d_ST_keptState_7 : decode b_ST_keptState 7 = .ok (.if_icmp .ge 29, 3) := by decide +kernel
theorem d_ST_keptState_10 : decode b_ST_keptState 10 = .ok (.aload_n 0, 1) := by decide +kernel
theorem d_ST_keptState_11 : decode b_ST_keptState 11 = .ok (.getfield 28, 3) := by decide +kernel
theorem d_ST_keptState_14 : decode b_ST_keptState 14 = .ok (.iload_n 2, 1) := by decide +kernel
theorem d_ST_keptState_15 : decode b_ST_keptState 15 = .ok (.iaload, 1) := by decide +kernel
theorem d_ST_keptState_16 : decode b_ST_keptState 16 = .ok (.iload_n 1, 1) := by decide +kernel
theorem d_ST_keptState_17 : decode b_ST_keptState 17 = .ok (.if_icmp .ne 13, 3) := by decide +kernel
theorem d_ST_keptState_20 : decode b_ST_keptState 20 = .ok (.aload_n 0, 1) := by decide +kernel
theorem d_ST_keptState_21 : decode b_ST_keptState 21 = .ok (.iload_n 2, 1) := by decide +kernel
theorem d_ST_keptState_22 : decode b_ST_keptState 22 = .ok (.invokevirtual 176, 3) := by decide +kernel
theorem d_ST_keptState_25 : decode b_ST_keptState 25 = .ok (.ifCond .eq 5, 3) := by decide +kernel
theorem d_ST_keptState_28 : decode b_ST_keptState 28 = .ok (.iload_n 2, 1) := by decide +kernel
theorem d_ST_keptState_29 : decode b_ST_keptState 29 = .ok (.ireturn, 1) := by decide +kernel
theorem d_ST_keptState_30 : decode b_ST_keptState 30 = .ok (.iinc 2 1, 3) := by decide +kernel
theorem d_ST_keptState_33 : decode b_ST_keptState 33 = .ok (.goto (-31), 3) := by decide +kernel
theorem d_ST_keptState_36 : decode b_ST_keptState 36 = .ok (.aload_n 0, 1) := by decide +kernel
theorem d_ST_keptState_37 : decode b_ST_keptState 37 = .ok (.getfield 40, 3) := by decide +kernel
theorem d_ST_keptState_40 : decode b_ST_keptState 40 = .ok (.aload_n 0, 1) := by decide +kernel
theorem d_ST_keptState_41 : decode b_ST_keptState 41 = .ok (.getfield 9, 3) := by decide +kernel
theorem d_ST_keptState_44 : decode b_ST_keptState 44 = .ok (.if_icmp .ge 23, 3) := by decide +kernel
theorem d_ST_keptState_47 : decode b_ST_keptState 47 = .ok (.aload_n 0, 1) := by decide +kernel
theorem d_ST_keptState_48 : decode b_ST_keptState 48 = .ok (.getfield 25, 3) := by decide +kernel
theorem d_ST_keptState_51 : decode b_ST_keptState 51 = .ok (.aload_n 0, 1) := by decide +kernel
theorem d_ST_keptState_52 : decode b_ST_keptState 52 = .ok (.getfield 40, 3) := by decide +kernel
theorem d_ST_keptState_55 : decode b_ST_keptState 55 = .ok (.iaload, 1) := by decide +kernel
theorem d_ST_keptState_56 : decode b_ST_keptState 56 = .ok (.aload_n 0, 1) := by decide +kernel
theorem d_ST_keptState_57 : decode b_ST_keptState 57 = .ok (.getfield 126, 3) := by decide +kernel
theorem d_ST_keptState_60 : decode b_ST_keptState 60 = .ok (.iadd, 1) := by decide +kernel
theorem d_ST_keptState_61 : decode b_ST_keptState 61 = .ok (.sipush 8192, 3) := by decide +kernel
theorem d_ST_keptState_64 : decode b_ST_keptState 64 = .ok (.if_icmp .le 8, 3) := by decide +kernel
theorem d_ST_keptState_67 : decode b_ST_keptState 67 = .ok (.aload_n 0, 1) := by decide +kernel
theorem d_ST_keptState_68 : decode b_ST_keptState 68 = .ok (.iconst 0, 1) := by decide +kernel
theorem d_ST_keptState_69 : decode b_ST_keptState 69 = .ok (.putfield 40, 3) := by decide +kernel
theorem d_ST_keptState_72 : decode b_ST_keptState 72 = .ok (.aload_n 0, 1) := by decide +kernel
theorem d_ST_keptState_73 : decode b_ST_keptState 73 = .ok (.getfield 31, 3) := by decide +kernel
theorem d_ST_keptState_76 : decode b_ST_keptState 76 = .ok (.iconst 0, 1) := by decide +kernel
theorem d_ST_keptState_77 : decode b_ST_keptState 77 = .ok (.aload_n 0, 1) := by decide +kernel
theorem d_ST_keptState_78 : decode b_ST_keptState 78 = .ok (.getfield 22, 3) := by decide +kernel
theorem d_ST_keptState_81 : decode b_ST_keptState 81 = .ok (.aload_n 0, 1) := by decide +kernel
theorem d_ST_keptState_82 : decode b_ST_keptState 82 = .ok (.getfield 25, 3) := by decide +kernel
theorem d_ST_keptState_85 : decode b_ST_keptState 85 = .ok (.aload_n 0, 1) := by decide +kernel
theorem d_ST_keptState_86 : decode b_ST_keptState 86 = .ok (.getfield 40, 3) := by decide +kernel
theorem d_ST_keptState_89 : decode b_ST_keptState 89 = .ok (.iaload, 1) := by decide +kernel
theorem d_ST_keptState_90 : decode b_ST_keptState 90 = .ok (.aload_n 0, 1) := by decide +kernel
theorem d_ST_keptState_91 : decode b_ST_keptState 91 = .ok (.getfield 126, 3) := by decide +kernel
theorem d_ST_keptState_94 : decode b_ST_keptState 94 = .ok (.invokestatic 111, 3) := by decide +kernel
theorem d_ST_keptState_97 : decode b_ST_keptState 97 = .ok (.aload_n 0, 1) := by decide +kernel
theorem d_ST_keptState_98 : decode b_ST_keptState 98 = .ok (.getfield 25, 3) := by decide +kernel
theorem d_ST_keptState_101 : decode b_ST_keptState 101 = .ok (.aload_n 0, 1) := by decide +kernel
theorem d_ST_keptState_102 : decode b_ST_keptState 102 = .ok (.getfield 40, 3) := by decide +kernel
theorem d_ST_keptState_105 : decode b_ST_keptState 105 = .ok (.iconst 1, 1) := by decide +kernel
theorem d_ST_keptState_106 : decode b_ST_keptState 106 = .ok (.iadd, 1) := by decide +kernel
theorem d_ST_keptState_107 : decode b_ST_keptState 107 = .ok (.aload_n 0, 1) := by decide +kernel
theorem d_ST_keptState_108 : decode b_ST_keptState 108 = .ok (.getfield 25, 3) := by decide +kernel
theorem d_ST_keptState_111 : decode b_ST_keptState 111 = .ok (.aload_n 0, 1) := by decide +kernel
theorem d_ST_keptState_112 : decode b_ST_keptState 112 = .ok (.getfield 40, 3) := by decide +kernel
theorem d_ST_keptState_115 : decode b_ST_keptState 115 = .ok (.iaload, 1) := by decide +kernel
theorem d_ST_keptState_116 : decode b_ST_keptState 116 = .ok (.aload_n 0, 1) := by decide +kernel
theorem d_ST_keptState_117 : decode b_ST_keptState 117 = .ok (.getfield 126, 3) := by decide +kernel
theorem d_ST_keptState_120 : decode b_ST_keptState 120 = .ok (.iadd, 1) := by decide +kernel
theorem d_ST_keptState_121 : decode b_ST_keptState 121 = .ok (.iastore, 1) := by decide +kernel
theorem d_ST_keptState_122 : decode b_ST_keptState 122 = .ok (.aload_n 0, 1) := by decide +kernel
theorem d_ST_keptState_123 : decode b_ST_keptState 123 = .ok (.getfield 28, 3) := by decide +kernel
theorem d_ST_keptState_126 : decode b_ST_keptState 126 = .ok (.aload_n 0, 1) := by decide +kernel
theorem d_ST_keptState_127 : decode b_ST_keptState 127 = .ok (.getfield 40, 3) := by decide +kernel
theorem d_ST_keptState_130 : decode b_ST_keptState 130 = .ok (.iload_n 1, 1) := by decide +kernel
theorem d_ST_keptState_131 : decode b_ST_keptState 131 = .ok (.iastore, 1) := by decide +kernel
theorem d_ST_keptState_132 : decode b_ST_keptState 132 = .ok (.aload_n 0, 1) := by decide +kernel
theorem d_ST_keptState_133 : decode b_ST_keptState 133 = .ok (.getfield 63, 3) := by decide +kernel
theorem d_ST_keptState_136 : decode b_ST_keptState 136 = .ok (.iconst 5, 1) := by decide +kernel
theorem d_ST_keptState_137 : decode b_ST_keptState 137 = .ok (.iadd, 1) := by decide +kernel
theorem d_ST_keptState_138 : decode b_ST_keptState 138 = .ok (.istore_n 2, 1) := by decide +kernel
theorem d_ST_keptState_139 : decode b_ST_keptState 139 = .ok (.aload_n 0, 1) := by decide +kernel
theorem d_ST_keptState_140 : decode b_ST_keptState 140 = .ok (.getfield 19, 3) := by decide +kernel
theorem d_ST_keptState_143 : decode b_ST_keptState 143 = .ok (.aload_n 0, 1) := by decide +kernel
theorem d_ST_keptState_144 : decode b_ST_keptState 144 = .ok (.getfield 40, 3) := by decide +kernel
theorem d_ST_keptState_147 : decode b_ST_keptState 147 = .ok (.iload_n 2, 1) := by decide +kernel
theorem d_ST_keptState_148 : decode b_ST_keptState 148 = .ok (.imul, 1) := by decide +kernel
theorem d_ST_keptState_149 : decode b_ST_keptState 149 = .ok (.aload_n 0, 1) := by decide +kernel
theorem d_ST_keptState_150 : decode b_ST_keptState 150 = .ok (.getfield 40, 3) := by decide +kernel
theorem d_ST_keptState_153 : decode b_ST_keptState 153 = .ok (.iconst 1, 1) := by decide +kernel
theorem d_ST_keptState_154 : decode b_ST_keptState 154 = .ok (.iadd, 1) := by decide +kernel
theorem d_ST_keptState_155 : decode b_ST_keptState 155 = .ok (.iload_n 2, 1) := by decide +kernel
theorem d_ST_keptState_156 : decode b_ST_keptState 156 = .ok (.imul, 1) := by decide +kernel
theorem d_ST_keptState_157 : decode b_ST_keptState 157 = .ok (.iconst 0, 1) := by decide +kernel
theorem d_ST_keptState_158 : decode b_ST_keptState 158 = .ok (.invokestatic 179, 3) := by decide +kernel
theorem d_ST_keptState_161 : decode b_ST_keptState 161 = .ok (.aload_n 0, 1) := by decide +kernel
theorem d_ST_keptState_162 : decode b_ST_keptState 162 = .ok (.dup, 1) := by decide +kernel
theorem d_ST_keptState_163 : decode b_ST_keptState 163 = .ok (.getfield 40, 3) := by decide +kernel
theorem d_ST_keptState_166 : decode b_ST_keptState 166 = .ok (.iconst 1, 1) := by decide +kernel
theorem d_ST_keptState_167 : decode b_ST_keptState 167 = .ok (.iadd, 1) := by decide +kernel
theorem d_ST_keptState_168 : decode b_ST_keptState 168 = .ok (.putfield 40, 3) := by decide +kernel
theorem d_ST_keptState_171 : decode b_ST_keptState 171 = .ok (.aload_n 0, 1) := by decide +kernel
theorem d_ST_keptState_172 : decode b_ST_keptState 172 = .ok (.getfield 40, 3) := by decide +kernel
theorem d_ST_keptState_175 : decode b_ST_keptState 175 = .ok (.iconst 1, 1) := by decide +kernel
theorem d_ST_keptState_176 : decode b_ST_keptState 176 = .ok (.isub, 1) := by decide +kernel
theorem d_ST_keptState_177 : decode b_ST_keptState 177 = .ok (.ireturn, 1) := by decide +kernel
theorem d_ST_lastCut_0 : decode b_ST_lastCut 0 = .ok (.iconst 0, 1) := by decide +kernel
theorem d_ST_lastCut_1 : decode b_ST_lastCut 1 = .ok (.istore_n 2, 1) := by decide +kernel
theorem d_ST_lastCut_2 : decode b_ST_lastCut 2 = .ok (.aload_n 0, 1) := by decide +kernel
theorem d_ST_lastCut_3 : decode b_ST_lastCut 3 = .ok (.getfield 63, 3) := by decide +kernel
theorem d_ST_lastCut_6 : decode b_ST_lastCut 6 = .ok (.istore_n 3, 1) := by decide +kernel
theorem d_ST_lastCut_7 : decode b_ST_lastCut 7 = .ok (.iconst 0, 1) := by decide +kernel
theorem d_ST_lastCut_8 : decode b_ST_lastCut 8 = .ok (.istore 4, 2) := by decide +kernel
theorem d_ST_lastCut_10 : decode b_ST_lastCut 10 = .ok (.iload 4, 2) := by decide +kernel
theorem d_ST_lastCut_12 : decode b_ST_lastCut 12 = .ok (.bipush 32, 2) := by decide +kernel
theorem d_ST_lastCut_14 : decode b_ST_lastCut 14 = .ok (.if_icmp .ge 43, 3) := by decide +kernel
theorem d_ST_lastCut_17 : decode b_ST_lastCut 17 = .ok (.iload_n 2, 1) := by decide +kernel
theorem d_ST_lastCut_18 : decode b_ST_lastCut 18 = .ok (.iload_n 3, 1) := by decide +kernel
theorem d_ST_lastCut_19 : decode b_ST_lastCut 19 = .ok (.if_icmp .ge 38, 3) := by decide +kernel
theorem d_ST_lastCut_22 : decode b_ST_lastCut 22 = .ok (.iload_n 2, 1) := by decide +kernel
theorem d_ST_lastCut_23 : decode b_ST_lastCut 23 = .ok (.iload_n 3, 1) := by decide +kernel
theorem d_ST_lastCut_24 : decode b_ST_lastCut 24 = .ok (.iadd, 1) := by decide +kernel
theorem d_ST_lastCut_25 : decode b_ST_lastCut 25 = .ok (.iconst 1, 1) := by decide +kernel
theorem d_ST_lastCut_26 : decode b_ST_lastCut 26 = .ok (.iushr, 1) := by decide +kernel
theorem d_ST_lastCut_27 : decode b_ST_lastCut 27 = .ok (.istore 5, 2) := by decide +kernel
theorem d_ST_lastCut_29 : decode b_ST_lastCut 29 = .ok (.aload_n 0, 1) := by decide +kernel
theorem d_ST_lastCut_30 : decode b_ST_lastCut 30 = .ok (.getfield 15, 3) := by decide +kernel
theorem d_ST_lastCut_33 : decode b_ST_lastCut 33 = .ok (.iload 5, 2) := by decide +kernel
theorem d_ST_lastCut_35 : decode b_ST_lastCut 35 = .ok (.iaload, 1) := by decide +kernel
theorem d_ST_lastCut_36 : decode b_ST_lastCut 36 = .ok (.iload_n 1, 1) := by decide +kernel
theorem d_ST_lastCut_37 : decode b_ST_lastCut 37 = .ok (.if_icmp .gt 11, 3) := by decide +kernel
theorem d_ST_lastCut_40 : decode b_ST_lastCut 40 = .ok (.iload 5, 2) := by decide +kernel
theorem d_ST_lastCut_42 : decode b_ST_lastCut 42 = .ok (.iconst 1, 1) := by decide +kernel
theorem d_ST_lastCut_43 : decode b_ST_lastCut 43 = .ok (.iadd, 1) := by decide +kernel
theorem d_ST_lastCut_44 : decode b_ST_lastCut 44 = .ok (.istore_n 2, 1) := by decide +kernel
theorem d_ST_lastCut_45 : decode b_ST_lastCut 45 = .ok (.goto 6, 3) := by decide +kernel
theorem d_ST_lastCut_48 : decode b_ST_lastCut 48 = .ok (.iload 5, 2) := by decide +kernel
theorem d_ST_lastCut_50 : decode b_ST_lastCut 50 = .ok (.istore_n 3, 1) := by decide +kernel
theorem d_ST_lastCut_51 : decode b_ST_lastCut 51 = .ok (.iinc 4 1, 3) := by decide +kernel
theorem d_ST_lastCut_54 : decode b_ST_lastCut 54 = .ok (.goto (-44), 3) := by decide +kernel
theorem d_ST_lastCut_57 : decode b_ST_lastCut 57 = .ok (.iload_n 2, 1) := by decide +kernel
theorem d_ST_lastCut_58 : decode b_ST_lastCut 58 = .ok (.iconst 1, 1) := by decide +kernel
theorem d_ST_lastCut_59 : decode b_ST_lastCut 59 = .ok (.isub, 1) := by decide +kernel
theorem d_ST_lastCut_60 : decode b_ST_lastCut 60 = .ok (.ireturn, 1) := by decide +kernel
theorem d_ST_makeEdge_0 : decode b_ST_makeEdge 0 = .ok (.aload_n 0, 1) := by decide +kernel
theorem d_ST_makeEdge_1 : decode b_ST_makeEdge 1 = .ok (.iconst 0, 1) := by decide +kernel
theorem d_ST_makeEdge_2 : decode b_ST_makeEdge 2 = .ok (.putfield 148, 3) := by decide +kernel
theorem d_ST_makeEdge_5 : decode b_ST_makeEdge 5 = .ok (.aload_n 0, 1) := by decide +kernel
theorem d_ST_makeEdge_6 : decode b_ST_makeEdge 6 = .ok (.dup, 1) := by decide +kernel
theorem d_ST_makeEdge_7 : decode b_ST_makeEdge 7 = .ok (.getfield 123, 3) := by decide +kernel
theorem d_ST_makeEdge_10 : decode b_ST_makeEdge 10 = .ok (.iconst 1, 1) := by decide +kernel
theorem d_ST_makeEdge_11 : decode b_ST_makeEdge 11 = .ok (.iadd, 1) := by decide +kernel
theorem d_ST_makeEdge_12 : decode b_ST_makeEdge 12 = .ok (.putfield 123, 3) := by decide +kernel
theorem d_ST_makeEdge_15 : decode b_ST_makeEdge 15 = .ok (.aload_n 0, 1) := by decide +kernel
theorem d_ST_makeEdge_16 : decode b_ST_makeEdge 16 = .ok (.iconst 0, 1) := by decide +kernel
theorem d_ST_makeEdge_17 : decode b_ST_makeEdge 17 = .ok (.putfield 126, 3) := by decide +kernel
theorem d_ST_makeEdge_20 : decode b_ST_makeEdge 20 = .ok (.aload_n 0, 1) := by decide +kernel
theorem d_ST_makeEdge_21 : decode b_ST_makeEdge 21 = .ok (.getfield 25, 3) := by decide +kernel
theorem d_ST_makeEdge_24 : decode b_ST_makeEdge 24 = .ok (.iload_n 1, 1) := by decide +kernel
theorem d_ST_makeEdge_25 : decode b_ST_makeEdge 25 = .ok (.iaload, 1) := by decide +kernel
theorem d_ST_makeEdge_26 : decode b_ST_makeEdge 26 = .ok (.istore_n 3, 1) := by decide +kernel
theorem d_ST_makeEdge_27 : decode b_ST_makeEdge 27 = .ok (.iload_n 3, 1) := by decide +kernel
theorem d_ST_makeEdge_28 : decode b_ST_makeEdge 28 = .ok (.aload_n 0, 1) := by decide +kernel
theorem d_ST_makeEdge_29 : decode b_ST_makeEdge 29 = .ok (.getfield 25, 3) := by decide +kernel
theorem d_ST_makeEdge_32 : decode b_ST_makeEdge 32 = .ok (.iload_n 1, 1) := by decide +kernel
theorem d_ST_makeEdge_33 : decode b_ST_makeEdge 33 = .ok (.iconst 1, 1) := by decide +kernel
theorem d_ST_makeEdge_34 : decode b_ST_makeEdge 34 = .ok (.iadd, 1) := by decide +kernel
theorem d_ST_makeEdge_35 : decode b_ST_makeEdge 35 = .ok (.iaload, 1) := by decide +kernel
theorem d_ST_makeEdge_36 : decode b_ST_makeEdge 36 = .ok (.if_icmp .ge 77, 3) := by decide +kernel
theorem d_ST_makeEdge_39 : decode b_ST_makeEdge 39 = .ok (.aload_n 0, 1) := by decide +kernel
theorem d_ST_makeEdge_40 : decode b_ST_makeEdge 40 = .ok (.getfield 22, 3) := by decide +kernel
theorem d_ST_makeEdge_43 : decode b_ST_makeEdge 43 = .ok (.iload_n 3, 1) := by decide +kernel
theorem d_ST_makeEdge_44 : decode b_ST_makeEdge 44 = .ok (.iaload, 1) := by decide +kernel
