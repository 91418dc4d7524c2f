theorem d_MO_addStep_0 : decode b_MO_addStep 0 = .ok (.sipush 12500, 3) := by decide +kernel
theorem d_MO_addStep_3 : decode b_MO_addStep 3 = .ok (.aload_n 0, 1) := by decide +kernel
theorem d_MO_addStep_4 : decode b_MO_addStep 4 = .ok (.getfield 438, 3) := by decide +kernel
theorem d_MO_addStep_7 : decode b_MO_addStep 7 = .ok (.imul, 1) := by decide +kernel
theorem d_MO_addStep_8 : decode b_MO_addStep 8 = .ok (.aload_n 0, 1) := by decide +kernel
theorem d_MO_addStep_9 : decode b_MO_addStep 9 = .ok (.getfield 124, 3) := by decide +kernel
theorem d_MO_addStep_12 : decode b_MO_addStep 12 = .ok (.aload_n 0, 1) := by decide +kernel
theorem d_MO_addStep_13 : decode b_MO_addStep 13 = .ok (.getfield 438, 3) := by decide +kernel
theorem d_MO_addStep_16 : decode b_MO_addStep 16 = .ok (.iaload, 1) := by decide +kernel
theorem d_MO_addStep_17 : decode b_MO_addStep 17 = .ok (.iadd, 1) := by decide +kernel
theorem d_MO_addStep_18 : decode b_MO_addStep 18 = .ok (.istore 4, 2) := by decide +kernel
theorem d_MO_addStep_20 : decode b_MO_addStep 20 = .ok (.aload_n 0, 1) := by decide +kernel
theorem d_MO_addStep_21 : decode b_MO_addStep 21 = .ok (.getfield 128, 3) := by decide +kernel
theorem d_MO_addStep_24 : decode b_MO_addStep 24 = .ok (.iload 4, 2) := by decide +kernel
theorem d_MO_addStep_26 : decode b_MO_addStep 26 = .ok (.iload_n 1, 1) := by decide +kernel
theorem d_MO_addStep_27 : decode b_MO_addStep 27 = .ok (.iastore, 1) := by decide +kernel
theorem d_MO_addStep_28 : decode b_MO_addStep 28 = .ok (.aload_n 0, 1) := by decide +kernel
theorem d_MO_addStep_29 : decode b_MO_addStep 29 = .ok (.getfield 131, 3) := by decide +kernel
theorem d_MO_addStep_32 : decode b_MO_addStep 32 = .ok (.iload 4, 2) := by decide +kernel
theorem d_MO_addStep_34 : decode b_MO_addStep 34 = .ok (.iload_n 2, 1) := by decide +kernel
theorem d_MO_addStep_35 : decode b_MO_addStep 35 = .ok (.iastore, 1) := by decide +kernel
theorem d_MO_addStep_36 : decode b_MO_addStep 36 = .ok (.aload_n 0, 1) := by decide +kernel
theorem d_MO_addStep_37 : decode b_MO_addStep 37 = .ok (.getfield 134, 3) := by decide +kernel
theorem d_MO_addStep_40 : decode b_MO_addStep 40 = .ok (.iload 4, 2) := by decide +kernel
theorem d_MO_addStep_42 : decode b_MO_addStep 42 = .ok (.iload_n 3, 1) := by decide +kernel
theorem d_MO_addStep_43 : decode b_MO_addStep 43 = .ok (.iastore, 1) := by decide +kernel
theorem d_MO_addStep_44 : decode b_MO_addStep 44 = .ok (.aload_n 0, 1) := by decide +kernel
theorem d_MO_addStep_45 : decode b_MO_addStep 45 = .ok (.getfield 124, 3) := by decide +kernel
theorem d_MO_addStep_48 : decode b_MO_addStep 48 = .ok (.aload_n 0, 1) := by decide +kernel
theorem d_MO_addStep_49 : decode b_MO_addStep 49 = .ok (.getfield 438, 3) := by decide +kernel
theorem d_MO_addStep_52 : decode b_MO_addStep 52 = .ok (.dup2, 1) := by decide +kernel
theorem d_MO_addStep_53 : decode b_MO_addStep 53 = .ok (.iaload, 1) := by decide +kernel
theorem d_MO_addStep_54 : decode b_MO_addStep 54 = .ok (.iconst 1, 1) := by decide +kernel
theorem d_MO_addStep_55 : decode b_MO_addStep 55 = .ok (.iadd, 1) := by decide +kernel
theorem d_MO_addStep_56 : decode b_MO_addStep 56 = .ok (.iastore, 1) := by decide +kernel
theorem d_MO_addStep_57 : decode b_MO_addStep 57 = .ok (.aload_n 0, 1) := by decide +kernel
theorem d_MO_addStep_58 : decode b_MO_addStep 58 = .ok (.getfield 124, 3) := by decide +kernel
theorem d_MO_addStep_61 : decode b_MO_addStep 61 = .ok (.aload_n 0, 1) := by decide +kernel
theorem d_MO_addStep_62 : decode b_MO_addStep 62 = .ok (.getfield 438, 3) := by decide +kernel
theorem d_MO_addStep_65 : decode b_MO_addStep 65 = .ok (.iaload, 1) := by decide +kernel
theorem d_MO_addStep_66 : decode b_MO_addStep 66 = .ok (.iconst 1, 1) := by decide +kernel
theorem d_MO_addStep_67 : decode b_MO_addStep 67 = .ok (.isub, 1) := by decide +kernel
theorem d_MO_addStep_68 : decode b_MO_addStep 68 = .ok (.ireturn, 1) := by decide +kernel
theorem d_MO_done_0 : decode b_MO_done 0 = .ok (.aload_n 0, 1) := by decide +kernel
theorem d_MO_done_1 : decode b_MO_done 1 = .ok (.dup, 1) := by decide +kernel
theorem d_MO_done_2 : decode b_MO_done 2 = .ok (.getfield 445, 3) := by decide +kernel
theorem d_MO_done_5 : decode b_MO_done 5 = .ok (.iconst 1, 1) := by decide +kernel
theorem d_MO_done_6 : decode b_MO_done 6 = .ok (.isub, 1) := by decide +kernel
theorem d_MO_done_7 : decode b_MO_done 7 = .ok (.putfield 445, 3) := by decide +kernel
theorem d_MO_done_10 : decode b_MO_done 10 = .ok (.aload_n 0, 1) := by decide +kernel
theorem d_MO_done_11 : decode b_MO_done 11 = .ok (.iload_n 1, 1) := by decide +kernel
theorem d_MO_done_12 : decode b_MO_done 12 = .ok (.putfield 448, 3) := by decide +kernel
theorem d_MO_done_15 : decode b_MO_done 15 = .ok (.return_, 1) := by decide +kernel
theorem d_MO_each_0 : decode b_MO_each 0 = .ok (.aload_n 0, 1) := by decide +kernel
theorem d_MO_each_1 : decode b_MO_each 1 = .ok (.invokevirtual 454, 3) := by decide +kernel
theorem d_MO_each_4 : decode b_MO_each 4 = .ok (.istore 5, 2) := by decide +kernel
theorem d_MO_each_6 : decode b_MO_each 6 = .ok (.iconst 0, 1) := by decide +kernel
theorem d_MO_each_7 : decode b_MO_each 7 = .ok (.istore 6, 2) := by decide +kernel
theorem d_MO_each_9 : decode b_MO_each 9 = .ok (.iload 6, 2) := by decide +kernel
theorem d_MO_each_11 : decode b_MO_each 11 = .ok (.iload 4, 2) := by decide +kernel
theorem d_MO_each_13 : decode b_MO_each 13 = .ok (.if_icmp .gt 77, 3) := by decide +kernel
theorem d_MO_each_16 : decode b_MO_each 16 = .ok (.aload_n 0, 1) := by decide +kernel
theorem d_MO_each_17 : decode b_MO_each 17 = .ok (.getfield 174, 3) := by decide +kernel
theorem d_MO_each_20 : decode b_MO_each 20 = .ok (.iload 5, 2) := by decide +kernel
theorem d_MO_each_22 : decode b_MO_each 22 = .ok (.iload 6, 2) := by decide +kernel
theorem d_MO_each_24 : decode b_MO_each 24 = .ok (.iadd, 1) := by decide +kernel
theorem d_MO_each_25 : decode b_MO_each 25 = .ok (.iload 6, 2) := by decide +kernel
theorem d_MO_each_27 : decode b_MO_each 27 = .ok (.ifCond .le 41, 3) := by decide +kernel
theorem d_MO_each_30 : decode b_MO_each 30 = .ok (.aload_n 0, 1) := by decide +kernel
theorem d_MO_each_31 : decode b_MO_each 31 = .ok (.getfield 174, 3) := by decide +kernel
theorem d_MO_each_34 : decode b_MO_each 34 = .ok (.iload_n 2, 1) := by decide +kernel
theorem d_MO_each_35 : decode b_MO_each 35 = .ok (.iload 6, 2) := by decide +kernel
theorem d_MO_each_37 : decode b_MO_each 37 = .ok (.iadd, 1) := by decide +kernel
theorem d_MO_each_38 : decode b_MO_each 38 = .ok (.iaload, 1) := by decide +kernel
theorem d_MO_each_39 : decode b_MO_each 39 = .ok (.aload_n 0, 1) := by decide +kernel
theorem d_MO_each_40 : decode b_MO_each 40 = .ok (.getfield 174, 3) := by decide +kernel
theorem d_MO_each_43 : decode b_MO_each 43 = .ok (.iload_n 2, 1) := by decide +kernel
theorem d_MO_each_44 : decode b_MO_each 44 = .ok (.iload 6, 2) := by decide +kernel
theorem d_MO_each_46 : decode b_MO_each 46 = .ok (.iadd, 1) := by decide +kernel
theorem d_MO_each_47 : decode b_MO_each 47 = .ok (.iconst 1, 1) := by decide +kernel
theorem d_MO_each_48 : decode b_MO_each 48 = .ok (.isub, 1) := by decide +kernel
theorem d_MO_each_49 : decode b_MO_each 49 = .ok (.iaload, 1) := by decide +kernel
theorem d_MO_each_50 : decode b_MO_each 50 = .ok (.if_icmp .ne 18, 3) := by decide +kernel
theorem d_MO_each_53 : decode b_MO_each 53 = .ok (.aload_n 0, 1) := by decide +kernel
theorem d_MO_each_54 : decode b_MO_each 54 = .ok (.getfield 174, 3) := by decide +kernel
theorem d_MO_each_57 : decode b_MO_each 57 = .ok (.iload 5, 2) := by decide +kernel
theorem d_MO_each_59 : decode b_MO_each 59 = .ok (.iload 6, 2) := by decide +kernel
theorem d_MO_each_61 : decode b_MO_each 61 = .ok (.iadd, 1) := by decide +kernel
theorem d_MO_each_62 : decode b_MO_each 62 = .ok (.iconst 1, 1) := by decide +kernel
theorem d_MO_each_63 : decode b_MO_each 63 = .ok (.isub, 1) := by decide +kernel
theorem d_MO_each_64 : decode b_MO_each 64 = .ok (.iaload, 1) := by decide +kernel
theorem d_MO_each_65 : decode b_MO_each 65 = .ok (.goto 18, 3) := by decide +kernel
theorem d_MO_each_68 : decode b_MO_each 68 = .ok (.aload_n 0, 1) := by decide +kernel
theorem d_MO_each_69 : decode b_MO_each 69 = .ok (.iload_n 1, 1) := by decide +kernel
theorem d_MO_each_70 : decode b_MO_each 70 = .ok (.aload_n 0, 1) := by decide +kernel
theorem d_MO_each_71 : decode b_MO_each 71 = .ok (.getfield 174, 3) := by decide +kernel
theorem d_MO_each_74 : decode b_MO_each 74 = .ok (.iload_n 2, 1) := by decide +kernel
theorem d_MO_each_75 : decode b_MO_each 75 = .ok (.iload 6, 2) := by decide +kernel
theorem d_MO_each_77 : decode b_MO_each 77 = .ok (.iadd, 1) := by decide +kernel
theorem d_MO_each_78 : decode b_MO_each 78 = .ok (.iaload, 1) := by decide +kernel
theorem d_MO_each_79 : decode b_MO_each 79 = .ok (.iload_n 3, 1) := by decide +kernel
theorem d_MO_each_80 : decode b_MO_each 80 = .ok (.invokevirtual 441, 3) := by decide +kernel
theorem d_MO_each_83 : decode b_MO_each 83 = .ok (.iastore, 1) := by decide +kernel
theorem d_MO_each_84 : decode b_MO_each 84 = .ok (.iinc 6 1, 3) := by decide +kernel
theorem d_MO_each_87 : decode b_MO_each 87 = .ok (.goto (-78), 3) := by decide +kernel
theorem d_MO_each_90 : decode b_MO_each 90 = .ok (.iload 5, 2) := by decide +kernel
theorem d_MO_each_92 : decode b_MO_each 92 = .ok (.ireturn, 1) := by decide +kernel
theorem d_MO_eachOf_0 : decode b_MO_eachOf 0 = .ok (.aload_n 0, 1) := by decide +kernel
theorem d_MO_eachOf_1 : decode b_MO_eachOf 1 = .ok (.invokevirtual 454, 3) := by decide +kernel
theorem d_MO_eachOf_4 : decode b_MO_eachOf 4 = .ok (.istore 4, 2) := by decide +kernel
theorem d_MO_eachOf_6 : decode b_MO_eachOf 6 = .ok (.iconst 0, 1) := by decide +kernel
theorem d_MO_eachOf_7 : decode b_MO_eachOf 7 = .ok (.istore 5, 2) := by decide +kernel
theorem d_MO_eachOf_9 : decode b_MO_eachOf 9 = .ok (.iload 5, 2) := by decide +kernel
theorem d_MO_eachOf_11 : decode b_MO_eachOf 11 = .ok (.iload_n 3, 1) := by decide +kernel
theorem d_MO_eachOf_12 : decode b_MO_eachOf 12 = .ok (.if_icmp .gt 108, 3) := by decide +kernel
theorem d_MO_eachOf_15 : decode b_MO_eachOf 15 = .ok (.aload_n 0, 1) := by decide +kernel
theorem d_MO_eachOf_16 : decode b_MO_eachOf 16 = .ok (.getfield 174, 3) := by decide +kernel
theorem d_MO_eachOf_19 : decode b_MO_eachOf 19 = .ok (.iload 4, 2) := by decide +kernel
theorem d_MO_eachOf_21 : decode b_MO_eachOf 21 = .ok (.iload 5, 2) := by decide +kernel
theorem d_MO_eachOf_23 : decode b_MO_eachOf 23 = .ok (.iadd, 1) := by decide +kernel
theorem d_MO_eachOf_24 : decode b_MO_eachOf 24 = .ok (.iload 5, 2) := by decide +kernel
theorem d_MO_eachOf_26 : decode b_MO_eachOf 26 = .ok (.ifCond .le 64, 3) := by decide +kernel
theorem d_MO_eachOf_29 : decode b_MO_eachOf 29 = .ok (.aload_n 0, 1) := by decide +kernel
theorem d_MO_eachOf_30 : decode b_MO_eachOf 30 = .ok (.getfield 174, 3) := by decide +kernel
theorem d_MO_eachOf_33 : decode b_MO_eachOf 33 = .ok (.iload_n 1, 1) := by decide +kernel
theorem d_MO_eachOf_34 : decode b_MO_eachOf 34 = .ok (.iload 5, 2) := by decide +kernel
theorem d_MO_eachOf_36 : decode b_MO_eachOf 36 = .ok (.iadd, 1) := by decide +kernel
theorem d_MO_eachOf_37 : decode b_MO_eachOf 37 = .ok (.iaload, 1) := by decide +kernel
theorem d_MO_eachOf_38 : decode b_MO_eachOf 38 = .ok (.aload_n 0, 1) := by decide +kernel
theorem d_MO_eachOf_39 : decode b_MO_eachOf 39 = .ok (.getfield 174, 3) := by decide +kernel
theorem d_MO_eachOf_42 : decode b_MO_eachOf 42 = .ok (.iload_n 1, 1) := by decide +kernel
theorem d_MO_eachOf_43 : decode b_MO_eachOf 43 = .ok (.iload 5, 2) := by decide +kernel
theorem d_MO_eachOf_45 : decode b_MO_eachOf 45 = .ok (.iadd, 1) := by decide +kernel
theorem d_MO_eachOf_46 : decode b_MO_eachOf 46 = .ok (.iconst 1, 1) := by decide +kernel
theorem d_MO_eachOf_47 : decode b_MO_eachOf 47 = .ok (.isub, 1) := by decide +kernel
theorem d_MO_eachOf_48 : decode b_MO_eachOf 48 = .ok (.iaload, 1) := by decide +kernel
theorem d_MO_eachOf_49 : decode b_MO_eachOf 49 = .ok (.if_icmp .ne 41, 3) := by decide +kernel
theorem d_MO_eachOf_52 : decode b_MO_eachOf 52 = .ok (.aload_n 0, 1) := by decide +kernel
theorem d_MO_eachOf_53 : decode b_MO_eachOf 53 = .ok (.getfield 174, 3) := by decide +kernel
theorem d_MO_eachOf_56 : decode b_MO_eachOf 56 = .ok (.iload_n 2, 1) := by decide +kernel
theorem d_MO_eachOf_57 : decode b_MO_eachOf 57 = .ok (.iload 5, 2) := by decide +kernel
theorem d_MO_eachOf_59 : decode b_MO_eachOf 59 = .ok (.iadd, 1) := by decide +kernel
theorem d_MO_eachOf_60 : decode b_MO_eachOf 60 = .ok (.iaload, 1) := by decide +kernel
theorem d_MO_eachOf_61 : decode b_MO_eachOf 61 = .ok (.aload_n 0, 1) := by decide +kernel
theorem d_MO_eachOf_62 : decode b_MO_eachOf 62 = .ok (.getfield 174, 3) := by decide +kernel
theorem d_MO_eachOf_65 : decode b_MO_eachOf 65 = .ok (.iload_n 2, 1) := by decide +kernel
theorem d_MO_eachOf_66 : decode b_MO_eachOf 66 = .ok (.iload 5, 2) := by decide +kernel
theorem d_MO_eachOf_68 : decode b_MO_eachOf 68 = .ok (.iadd, 1) := by decide +kernel
theorem d_MO_eachOf_69 : decode b_MO_eachOf 69 = .ok (.iconst 1, 1) := by decide +kernel
theorem d_MO_eachOf_70 : decode b_MO_eachOf 70 = .ok (.isub, 1) := by decide +kernel
theorem d_MO_eachOf_71 : decode b_MO_eachOf 71 = .ok (.iaload, 1) := by decide +kernel
theorem d_MO_eachOf_72 : decode b_MO_eachOf 72 = .ok (.if_icmp .ne 18, 3) := by decide +kernel
theorem d_MO_eachOf_75 : decode b_MO_eachOf 75 = .ok (.aload_n 0, 1) := by decide +kernel
theorem d_MO_eachOf_76 : decode b_MO_eachOf 76 = .ok (.getfield 174, 3) := by decide +kernel
theorem d_MO_eachOf_79 : decode b_MO_eachOf 79 = .ok (.iload 4, 2) := by decide +kernel
theorem d_MO_eachOf_81 : decode b_MO_eachOf 81 = .ok (.iload 5, 2) := by decide +kernel
theorem d_MO_eachOf_83 : decode b_MO_eachOf 83 = .ok (.iadd, 1) := by decide +kernel
theorem d_MO_eachOf_84 : decode b_MO_eachOf 84 = .ok (.iconst 1, 1) := by decide +kernel
theorem d_MO_eachOf_85 : decode b_MO_eachOf 85 = .ok (.isub, 1) := by decide +kernel
theorem d_MO_eachOf_86 : decode b_MO_eachOf 86 = .ok (.iaload, 1) := by decide +kernel
theorem d_MO_eachOf_87 : decode b_MO_eachOf 87 = .ok (.goto 26, 3) := by decide +kernel
theorem d_MO_eachOf_90 : decode b_MO_eachOf 90 = .ok (.aload_n 0, 1) := by decide +kernel
theorem d_MO_eachOf_91 : decode b_MO_eachOf 91 = .ok (.iconst 3, 1) := by decide +kernel
theorem d_MO_eachOf_92 : decode b_MO_eachOf 92 = .ok (.aload_n 0, 1) := by decide +kernel
theorem d_MO_eachOf_93 : decode b_MO_eachOf 93 = .ok (.getfield 174, 3) := by decide +kernel
theorem d_MO_eachOf_96 : decode b_MO_eachOf 96 = .ok (.iload_n 1, 1) := by decide +kernel
theorem d_MO_eachOf_97 : decode b_MO_eachOf 97 = .ok (.iload 5, 2) := by decide +kernel
theorem d_MO_eachOf_99 : decode b_MO_eachOf 99 = .ok (.iadd, 1) := by decide +kernel
theorem d_MO_eachOf_100 : decode b_MO_eachOf 100 = .ok (.iaload, 1) := by decide +kernel
theorem d_MO_eachOf_101 : decode b_MO_eachOf 101 = .ok (.aload_n 0, 1) := by decide +kernel
theorem d_MO_eachOf_102 : decode b_MO_eachOf 102 = .ok (.getfield 174, 3) := by decide +kernel
theorem d_MO_eachOf_105 : decode b_MO_eachOf 105 = .ok (.iload_n 2, 1) := by decide +kernel
theorem d_MO_eachOf_106 : decode b_MO_eachOf 106 = .ok (.iload 5, 2) := by decide +kernel
theorem d_MO_eachOf_108 : decode b_MO_eachOf 108 = .ok (.iadd, 1) := by decide +kernel
theorem d_MO_eachOf_109 : decode b_MO_eachOf 109 = .ok (.iaload, 1) := by decide +kernel
theorem d_MO_eachOf_110 : decode b_MO_eachOf 110 = .ok (.invokevirtual 441, 3) := by decide +kernel
theorem d_MO_eachOf_113 : decode b_MO_eachOf 113 = .ok (.iastore, 1) := by decide +kernel
theorem d_MO_eachOf_114 : decode b_MO_eachOf 114 = .ok (.iinc 5 1, 3) := by decide +kernel
theorem d_MO_eachOf_117 : decode b_MO_eachOf 117 = .ok (.goto (-108), 3) := by decide +kernel
theorem d_MO_eachOf_120 : decode b_MO_eachOf 120 = .ok (.iload 4, 2) := by decide +kernel
theorem d_MO_eachOf_122 : decode b_MO_eachOf 122 = .ok (.ireturn, 1) := by decide +kernel
theorem d_MO_fromEnd_0 : decode b_MO_fromEnd 0 = .ok (.iconst 0, 1) := by decide +kernel
theorem d_MO_fromEnd_1 : decode b_MO_fromEnd 1 = .ok (.istore_n 3, 1) := by decide +kernel
theorem d_MO_fromEnd_2 : decode b_MO_fromEnd 2 = .ok (.aload_n 0, 1) := by decide +kernel
theorem d_MO_fromEnd_3 : decode b_MO_fromEnd 3 = .ok (.getfield 56, 3) := by decide +kernel
theorem d_MO_fromEnd_6 : decode b_MO_fromEnd 6 = .ok (.iload_n 1, 1) := by decide +kernel
theorem d_MO_fromEnd_7 : decode b_MO_fromEnd 7 = .ok (.iaload, 1) := by decide +kernel
theorem d_MO_fromEnd_8 : decode b_MO_fromEnd 8 = .ok (.istore 4, 2) := by decide +kernel
theorem d_MO_fromEnd_10 : decode b_MO_fromEnd 10 = .ok (.iload 4, 2) := by decide +kernel
theorem d_MO_fromEnd_12 : decode b_MO_fromEnd 12 = .ok (.ifCond .lt 18, 3) := by decide +kernel
theorem d_MO_fromEnd_15 : decode b_MO_fromEnd 15 = .ok (.iinc 3 1, 3) := by decide +kernel
theorem d_MO_fromEnd_18 : decode b_MO_fromEnd 18 = .ok (.aload_n 0, 1) := by decide +kernel
theorem d_MO_fromEnd_19 : decode b_MO_fromEnd 19 = .ok (.getfield 59, 3) := by decide +kernel
theorem d_MO_fromEnd_22 : decode b_MO_fromEnd 22 = .ok (.iload 4, 2) := by decide +kernel
theorem d_MO_fromEnd_24 : decode b_MO_fromEnd 24 = .ok (.iaload, 1) := by decide +kernel
theorem d_MO_fromEnd_25 : decode b_MO_fromEnd 25 = .ok (.istore 4, 2) := by decide +kernel
theorem d_MO_fromEnd_27 : decode b_MO_fromEnd 27 = .ok (.goto (-17), 3) := by decide +kernel
theorem d_MO_fromEnd_30 : decode b_MO_fromEnd 30 = .ok (.iload_n 2, 1) := by decide +kernel
theorem d_MO_fromEnd_31 : decode b_MO_fromEnd 31 = .ok (.iload_n 3, 1) := by decide +kernel
theorem d_MO_fromEnd_32 : decode b_MO_fromEnd 32 = .ok (.if_icmp .lt 5, 3) := by decide +kernel
theorem d_MO_fromEnd_35 : decode b_MO_fromEnd 35 = .ok (.iconst (-1), 1) := by decide +kernel
theorem d_MO_fromEnd_36 : decode b_MO_fromEnd 36 = .ok (.ireturn, 1) := by decide +kernel
theorem d_MO_fromEnd_37 : decode b_MO_fromEnd 37 = .ok (.aload_n 0, 1) := by decide +kernel
theorem d_MO_fromEnd_38 : decode b_MO_fromEnd 38 = .ok (.getfield 56, 3) := by decide +kernel
theorem d_MO_fromEnd_41 : decode b_MO_fromEnd 41 = .ok (.iload_n 1, 1) := by decide +kernel
theorem d_MO_fromEnd_42 : decode b_MO_fromEnd 42 = .ok (.iaload, 1) := by decide +kernel
theorem d_MO_fromEnd_43 : decode b_MO_fromEnd 43 = .ok (.istore 4, 2) := by decide +kernel
theorem d_MO_fromEnd_45 : decode b_MO_fromEnd 45 = .ok (.iconst 0, 1) := by decide +kernel
theorem d_MO_fromEnd_46 : decode b_MO_fromEnd 46 = .ok (.istore 5, 2) := by decide +kernel
theorem d_MO_fromEnd_48 : decode b_MO_fromEnd 48 = .ok (.iload 5, 2) := by decide +kernel
theorem d_MO_fromEnd_50 : decode b_MO_fromEnd 50 = .ok (.iload_n 3, 1) := by decide +kernel
theorem d_MO_fromEnd_51 : decode b_MO_fromEnd 51 = .ok (.iconst 1, 1) := by decide +kernel
theorem d_MO_fromEnd_52 : decode b_MO_fromEnd 52 = .ok (.isub, 1) := by decide +kernel
theorem d_MO_fromEnd_53 : decode b_MO_fromEnd 53 = .ok (.iload_n 2, 1) := by decide +kernel
theorem d_MO_fromEnd_54 : decode b_MO_fromEnd 54 = .ok (.isub, 1) := by decide +kernel
theorem d_MO_fromEnd_55 : decode b_MO_fromEnd 55 = .ok (.if_icmp .ge 18, 3) := by decide +kernel
theorem d_MO_fromEnd_58 : decode b_MO_fromEnd 58 = .ok (.aload_n 0, 1) := by decide +kernel
theorem d_MO_fromEnd_59 : decode b_MO_fromEnd 59 = .ok (.getfield 59, 3) := by decide +kernel
theorem d_MO_fromEnd_62 : decode b_MO_fromEnd 62 = .ok (.iload 4, 2) := by decide +kernel
theorem d_MO_fromEnd_64 : decode b_MO_fromEnd 64 = .ok (.iaload, 1) := by decide +kernel
theorem d_MO_fromEnd_65 : decode b_MO_fromEnd 65 = .ok (.istore 4, 2) := by decide +kernel
theorem d_MO_fromEnd_67 : decode b_MO_fromEnd 67 = .ok (.iinc 5 1, 3) := by decide +kernel
theorem d_MO_fromEnd_70 : decode b_MO_fromEnd 70 = .ok (.goto (-22), 3) := by decide +kernel
theorem d_MO_fromEnd_73 : decode b_MO_fromEnd 73 = .ok (.iload 4, 2) := by decide +kernel
theorem d_MO_fromEnd_75 : decode b_MO_fromEnd 75 = .ok (.ireturn, 1) := by decide +kernel
theorem d_MO_open_0 : decode b_MO_open 0 = .ok (.aload_n 0, 1) := by decide +kernel
theorem d_MO_open_1 : decode b_MO_open 1 = .ok (.getfield 158, 3) := by decide +kernel
theorem d_MO_open_4 : decode b_MO_open 4 = .ok (.aload_n 0, 1) := by decide +kernel
theorem d_MO_open_5 : decode b_MO_open 5 = .ok (.getfield 445, 3) := by decide +kernel
theorem d_MO_open_8 : decode b_MO_open 8 = .ok (.iload_n 1, 1) := by decide +kernel
theorem d_MO_open_9 : decode b_MO_open 9 = .ok (.iastore, 1) := by decide +kernel
theorem d_MO_open_10 : decode b_MO_open 10 = .ok (.aload_n 0, 1) := by decide +kernel
theorem d_MO_open_11 : decode b_MO_open 11 = .ok (.getfield 161, 3) := by decide +kernel
theorem d_MO_open_14 : decode b_MO_open 14 = .ok (.aload_n 0, 1) := by decide +kernel
theorem d_MO_open_15 : decode b_MO_open 15 = .ok (.getfield 445, 3) := by decide +kernel
theorem d_MO_open_18 : decode b_MO_open 18 = .ok (.iload_n 2, 1) := by decide +kernel
theorem d_MO_open_19 : decode b_MO_open 19 = .ok (.iastore, 1) := by decide +kernel
theorem d_MO_open_20 : decode b_MO_open 20 = .ok (.aload_n 0, 1) := by decide +kernel
theorem d_MO_open_21 : decode b_MO_open 21 = .ok (.getfield 164, 3) := by decide +kernel
theorem d_MO_open_24 : decode b_MO_open 24 = .ok (.aload_n 0, 1) := by decide +kernel
theorem d_MO_open_25 : decode b_MO_open 25 = .ok (.getfield 445, 3) := by decide +kernel
theorem d_MO_open_28 : decode b_MO_open 28 = .ok (.iload_n 3, 1) := by decide +kernel
theorem d_MO_open_29 : decode b_MO_open 29 = .ok (.iastore, 1) := by decide +kernel
theorem d_MO_open_30 : decode b_MO_open 30 = .ok (.aload_n 0, 1) := by decide +kernel
theorem d_MO_open_31 : decode b_MO_open 31 = .ok (.getfield 167, 3) := by decide +kernel
theorem d_MO_open_34 : decode b_MO_open 34 = .ok (.aload_n 0, 1) := by decide +kernel
theorem d_MO_open_35 : decode b_MO_open 35 = .ok (.getfield 445, 3) := by decide +kernel
theorem d_MO_open_38 : decode b_MO_open 38 = .ok (.iload_n 3, 1) := by decide +kernel
theorem d_MO_open_39 : decode b_MO_open 39 = .ok (.iastore, 1) := by decide +kernel
theorem d_MO_open_40 : decode b_MO_open 40 = .ok (.aload_n 0, 1) := by decide +kernel
theorem d_MO_open_41 : decode b_MO_open 41 = .ok (.getfield 170, 3) := by decide +kernel
theorem d_MO_open_44 : decode b_MO_open 44 = .ok (.aload_n 0, 1) := by decide +kernel
theorem d_MO_open_45 : decode b_MO_open 45 = .ok (.getfield 445, 3) := by decide +kernel
theorem d_MO_open_48 : decode b_MO_open 48 = .ok (.iconst 0, 1) := by decide +kernel
theorem d_MO_open_49 : decode b_MO_open 49 = .ok (.iastore, 1) := by decide +kernel
theorem d_MO_open_50 : decode b_MO_open 50 = .ok (.aload_n 0, 1) := by decide +kernel
theorem d_MO_open_51 : decode b_MO_open 51 = .ok (.dup, 1) := by decide +kernel
theorem d_MO_open_52 : decode b_MO_open 52 = .ok (.getfield 445, 3) := by decide +kernel
theorem d_MO_open_55 : decode b_MO_open 55 = .ok (.iconst 1, 1) := by decide +kernel
theorem d_MO_open_56 : decode b_MO_open 56 = .ok (.iadd, 1) := by decide +kernel
theorem d_MO_open_57 : decode b_MO_open 57 = .ok (.putfield 445, 3) := by decide +kernel
theorem d_MO_open_60 : decode b_MO_open 60 = .ok (.return_, 1) := by decide +kernel
theorem d_MO_row_0 : decode b_MO_row 0 = .ok (.aload_n 0, 1) := by decide +kernel
theorem d_MO_row_1 : decode b_MO_row 1 = .ok (.dup, 1) := by decide +kernel
theorem d_MO_row_2 : decode b_MO_row 2 = .ok (.getfield 451, 3) := by decide +kernel
theorem d_MO_row_5 : decode b_MO_row 5 = .ok (.iconst 1, 1) := by decide +kernel
theorem d_MO_row_6 : decode b_MO_row 6 = .ok (.iadd, 1) := by decide +kernel
theorem d_MO_row_7 : decode b_MO_row 7 = .ok (.putfield 451, 3) := by decide +kernel
theorem d_MO_row_10 : decode b_MO_row 10 = .ok (.bipush 32, 2) := by decide +kernel
theorem d_MO_row_12 : decode b_MO_row 12 = .ok (.aload_n 0, 1) := by decide +kernel
theorem d_MO_row_13 : decode b_MO_row 13 = .ok (.getfield 451, 3) := by decide +kernel
theorem d_MO_row_16 : decode b_MO_row 16 = .ok (.iconst 1, 1) := by decide +kernel
theorem d_MO_row_17 : decode b_MO_row 17 = .ok (.isub, 1) := by decide +kernel
theorem d_MO_row_18 : decode b_MO_row 18 = .ok (.imul, 1) := by decide +kernel
theorem d_MO_row_19 : decode b_MO_row 19 = .ok (.ireturn, 1) := by decide +kernel
theorem d_MO_same_0 : decode b_MO_same 0 = .ok (.aload_n 0, 1) := by decide +kernel
theorem d_MO_same_1 : decode b_MO_same 1 = .ok (.invokevirtual 454, 3) := by decide +kernel
theorem d_MO_same_4 : decode b_MO_same 4 = .ok (.istore_n 3, 1) := by decide +kernel
theorem d_MO_same_5 : decode b_MO_same 5 = .ok (.iconst 0, 1) := by decide +kernel
theorem d_MO_same_6 : decode b_MO_same 6 = .ok (.istore 4, 2) := by decide +kernel
theorem d_MO_same_8 : decode b_MO_same 8 = .ok (.iload 4, 2) := by decide +kernel
theorem d_MO_same_10 : decode b_MO_same 10 = .ok (.iload_n 2, 1) := by decide +kernel
theorem d_MO_same_11 : decode b_MO_same 11 = .ok (.if_icmp .gt 19, 3) := by decide +kernel
theorem d_MO_same_14 : decode b_MO_same 14 = .ok (.aload_n 0, 1) := by decide +kernel
theorem d_MO_same_15 : decode b_MO_same 15 = .ok (.getfield 174, 3) := by decide +kernel
theorem d_MO_same_18 : decode b_MO_same 18 = .ok (.iload_n 3, 1) := by decide +kernel
theorem d_MO_same_19 : decode b_MO_same 19 = .ok (.iload 4, 2) := by decide +kernel
theorem d_MO_same_21 : decode b_MO_same 21 = .ok (.iadd, 1) := by decide +kernel
theorem d_MO_same_22 : decode b_MO_same 22 = .ok (.iload_n 1, 1) := by decide +kernel
theorem d_MO_same_23 : decode b_MO_same 23 = .ok (.iastore, 1) := by decide +kernel
theorem d_MO_same_24 : decode b_MO_same 24 = .ok (.iinc 4 1, 3) := by decide +kernel
theorem d_MO_same_27 : decode b_MO_same 27 = .ok (.goto (-19), 3) := by decide +kernel
theorem d_MO_same_30 : decode b_MO_same 30 = .ok (.iload_n 3, 1) := by decide +kernel
theorem d_MO_same_31 : decode b_MO_same 31 = .ok (.ireturn, 1) := by decide +kernel
theorem d_MO_takeStep_0 : decode b_MO_takeStep 0 = .ok (.aload_n 0, 1) := by decide +kernel
theorem d_MO_takeStep_1 : decode b_MO_takeStep 1 = .ok (.iconst 1, 1) := by decide +kernel
theorem d_MO_takeStep_2 : decode b_MO_takeStep 2 = .ok (.iload_n 2, 1) := by decide +kernel
theorem d_MO_takeStep_3 : decode b_MO_takeStep 3 = .ok (.iconst 0, 1) := by decide +kernel
theorem d_MO_takeStep_4 : decode b_MO_takeStep 4 = .ok (.invokevirtual 441, 3) := by decide +kernel
theorem d_MO_takeStep_7 : decode b_MO_takeStep 7 = .ok (.istore_n 3, 1) := by decide +kernel
theorem d_MO_takeStep_8 : decode b_MO_takeStep 8 = .ok (.sipush 12500, 3) := by decide +kernel
theorem d_MO_takeStep_11 : decode b_MO_takeStep 11 = .ok (.aload_n 0, 1) := by decide +kernel
theorem d_MO_takeStep_12 : decode b_MO_takeStep 12 = .ok (.getfield 438, 3) := by decide +kernel
theorem d_MO_takeStep_15 : decode b_MO_takeStep 15 = .ok (.imul, 1) := by decide +kernel
theorem d_MO_takeStep_16 : decode b_MO_takeStep 16 = .ok (.iload_n 3, 1) := by decide +kernel
theorem d_MO_takeStep_17 : decode b_MO_takeStep 17 = .ok (.iadd, 1) := by decide +kernel
theorem d_MO_takeStep_18 : decode b_MO_takeStep 18 = .ok (.istore 4, 2) := by decide +kernel
theorem d_MO_takeStep_20 : decode b_MO_takeStep 20 = .ok (.sipush 600, 3) := by decide +kernel
theorem d_MO_takeStep_23 : decode b_MO_takeStep 23 = .ok (.aload_n 0, 1) := by decide +kernel
theorem d_MO_takeStep_24 : decode b_MO_takeStep 24 = .ok (.getfield 438, 3) := by decide +kernel
theorem d_MO_takeStep_27 : decode b_MO_takeStep 27 = .ok (.imul, 1) := by decide +kernel
theorem d_MO_takeStep_28 : decode b_MO_takeStep 28 = .ok (.aload_n 0, 1) := by decide +kernel
theorem d_MO_takeStep_29 : decode b_MO_takeStep 29 = .ok (.getfield 149, 3) := by decide +kernel
theorem d_MO_takeStep_32 : decode b_MO_takeStep 32 = .ok (.aload_n 0, 1) := by decide +kernel
theorem d_MO_takeStep_33 : decode b_MO_takeStep 33 = .ok (.getfield 438, 3) := by decide +kernel
theorem d_MO_takeStep_36 : decode b_MO_takeStep 36 = .ok (.iaload, 1) := by decide +kernel
theorem d_MO_takeStep_37 : decode b_MO_takeStep 37 = .ok (.iadd, 1) := by decide +kernel
theorem d_MO_takeStep_38 : decode b_MO_takeStep 38 = .ok (.istore 5, 2) := by decide +kernel
theorem d_MO_takeStep_40 : decode b_MO_takeStep 40 = .ok (.iconst 0, 1) := by decide +kernel
theorem d_MO_takeStep_41 : decode b_MO_takeStep 41 = .ok (.istore 6, 2) := by decide +kernel
theorem d_MO_takeStep_43 : decode b_MO_takeStep 43 = .ok (.iload 6, 2) := by decide +kernel
theorem d_MO_takeStep_45 : decode b_MO_takeStep 45 = .ok (.iload_n 3, 1) := by decide +kernel
theorem d_MO_takeStep_46 : decode b_MO_takeStep 46 = .ok (.if_icmp .ge 67, 3) := by decide +kernel
theorem d_MO_takeStep_49 : decode b_MO_takeStep 49 = .ok (.aload_n 0, 1) := by decide +kernel
theorem d_MO_takeStep_50 : decode b_MO_takeStep 50 = .ok (.getfield 128, 3) := by decide +kernel
theorem d_MO_takeStep_53 : decode b_MO_takeStep 53 = .ok (.sipush 12500, 3) := by decide +kernel
theorem d_MO_takeStep_56 : decode b_MO_takeStep 56 = .ok (.aload_n 0, 1) := by decide +kernel
theorem d_MO_takeStep_57 : decode b_MO_takeStep 57 = .ok (.getfield 438, 3) := by decide +kernel
theorem d_MO_takeStep_60 : decode b_MO_takeStep 60 = .ok (.imul, 1) := by decide +kernel
theorem d_MO_takeStep_61 : decode b_MO_takeStep 61 = .ok (.iload 6, 2) := by decide +kernel
theorem d_MO_takeStep_63 : decode b_MO_takeStep 63 = .ok (.iadd, 1) := by decide +kernel
theorem d_MO_takeStep_64 : decode b_MO_takeStep 64 = .ok (.iaload, 1) := by decide +kernel
theorem d_MO_takeStep_65 : decode b_MO_takeStep 65 = .ok (.iconst 1, 1) := by decide +kernel
theorem d_MO_takeStep_66 : decode b_MO_takeStep 66 = .ok (.if_icmp .ne 41, 3) := by decide +kernel
theorem d_MO_takeStep_69 : decode b_MO_takeStep 69 = .ok (.aload_n 0, 1) := by decide +kernel
theorem d_MO_takeStep_70 : decode b_MO_takeStep 70 = .ok (.getfield 134, 3) := by decide +kernel
theorem d_MO_takeStep_73 : decode b_MO_takeStep 73 = .ok (.sipush 12500, 3) := by decide +kernel
theorem d_MO_takeStep_76 : decode b_MO_takeStep 76 = .ok (.aload_n 0, 1) := by decide +kernel
theorem d_MO_takeStep_77 : decode b_MO_takeStep 77 = .ok (.getfield 438, 3) := by decide +kernel
theorem d_MO_takeStep_80 : decode b_MO_takeStep 80 = .ok (.imul, 1) := by decide +kernel
theorem d_MO_takeStep_81 : decode b_MO_takeStep 81 = .ok (.iload 6, 2) := by decide +kernel
theorem d_MO_takeStep_83 : decode b_MO_takeStep 83 = .ok (.iadd, 1) := by decide +kernel
theorem d_MO_takeStep_84 : decode b_MO_takeStep 84 = .ok (.iaload, 1) := by decide +kernel
theorem d_MO_takeStep_85 : decode b_MO_takeStep 85 = .ok (.iload_n 1, 1) := by decide +kernel
theorem d_MO_takeStep_86 : decode b_MO_takeStep 86 = .ok (.if_icmp .ne 21, 3) := by decide +kernel
theorem d_MO_takeStep_89 : decode b_MO_takeStep 89 = .ok (.aload_n 0, 1) := by decide +kernel
theorem d_MO_takeStep_90 : decode b_MO_takeStep 90 = .ok (.getfield 137, 3) := by decide +kernel
theorem d_MO_takeStep_93 : decode b_MO_takeStep 93 = .ok (.sipush 12500, 3) := by decide +kernel
theorem d_MO_takeStep_96 : decode b_MO_takeStep 96 = .ok (.aload_n 0, 1) := by decide +kernel
theorem d_MO_takeStep_97 : decode b_MO_takeStep 97 = .ok (.getfield 438, 3) := by decide +kernel
theorem d_MO_takeStep_100 : decode b_MO_takeStep 100 = .ok (.imul, 1) := by decide +kernel
theorem d_MO_takeStep_101 : decode b_MO_takeStep 101 = .ok (.iload 6, 2) := by decide +kernel
theorem d_MO_takeStep_103 : decode b_MO_takeStep 103 = .ok (.iadd, 1) := by decide +kernel
theorem d_MO_takeStep_104 : decode b_MO_takeStep 104 = .ok (.iaload, 1) := by decide +kernel
theorem d_MO_takeStep_105 : decode b_MO_takeStep 105 = .ok (.istore 5, 2) := by decide +kernel
theorem d_MO_takeStep_107 : decode b_MO_takeStep 107 = .ok (.iinc 6 1, 3) := by decide +kernel
theorem d_MO_takeStep_110 : decode b_MO_takeStep 110 = .ok (.goto (-67), 3) := by decide +kernel
theorem d_MO_takeStep_113 : decode b_MO_takeStep 113 = .ok (.iload 5, 2) := by decide +kernel
theorem d_MO_takeStep_115 : decode b_MO_takeStep 115 = .ok (.sipush 600, 3) := by decide +kernel
theorem d_MO_takeStep_118 : decode b_MO_takeStep 118 = .ok (.aload_n 0, 1) := by decide +kernel
theorem d_MO_takeStep_119 : decode b_MO_takeStep 119 = .ok (.getfield 438, 3) := by decide +kernel
theorem d_MO_takeStep_122 : decode b_MO_takeStep 122 = .ok (.imul, 1) := by decide +kernel
theorem d_MO_takeStep_123 : decode b_MO_takeStep 123 = .ok (.aload_n 0, 1) := by decide +kernel
theorem d_MO_takeStep_124 : decode b_MO_takeStep 124 = .ok (.getfield 149, 3) := by decide +kernel
theorem d_MO_takeStep_127 : decode b_MO_takeStep 127 = .ok (.aload_n 0, 1) := by decide +kernel
theorem d_MO_takeStep_128 : decode b_MO_takeStep 128 = .ok (.getfield 438, 3) := by decide +kernel
theorem d_MO_takeStep_131 : decode b_MO_takeStep 131 = .ok (.iaload, 1) := by decide +kernel
theorem d_MO_takeStep_132 : decode b_MO_takeStep 132 = .ok (.iadd, 1) := by decide +kernel
theorem d_MO_takeStep_133 : decode b_MO_takeStep 133 = .ok (.if_icmp .ne 89, 3) := by decide +kernel
theorem d_MO_takeStep_136 : decode b_MO_takeStep 136 = .ok (.iconst 0, 1) := by decide +kernel
theorem d_MO_takeStep_137 : decode b_MO_takeStep 137 = .ok (.istore 6, 2) := by decide +kernel
theorem d_MO_takeStep_139 : decode b_MO_takeStep 139 = .ok (.iload 6, 2) := by decide +kernel
theorem d_MO_takeStep_141 : decode b_MO_takeStep 141 = .ok (.aload_n 0, 1) := by decide +kernel
theorem d_MO_takeStep_142 : decode b_MO_takeStep 142 = .ok (.getfield 37, 3) := by decide +kernel
theorem d_MO_takeStep_145 : decode b_MO_takeStep 145 = .ok (.iload_n 1, 1) := by decide +kernel
theorem d_MO_takeStep_146 : decode b_MO_takeStep 146 = .ok (.iaload, 1) := by decide +kernel
theorem d_MO_takeStep_147 : decode b_MO_takeStep 147 = .ok (.if_icmp .ge 57, 3) := by decide +kernel
theorem d_MO_takeStep_150 : decode b_MO_takeStep 150 = .ok (.aload_n 0, 1) := by decide +kernel
theorem d_MO_takeStep_151 : decode b_MO_takeStep 151 = .ok (.getfield 143, 3) := by decide +kernel
theorem d_MO_takeStep_154 : decode b_MO_takeStep 154 = .ok (.iload 5, 2) := by decide +kernel
theorem d_MO_takeStep_156 : decode b_MO_takeStep 156 = .ok (.iload 6, 2) := by decide +kernel
theorem d_MO_takeStep_158 : decode b_MO_takeStep 158 = .ok (.iadd, 1) := by decide +kernel
theorem d_MO_takeStep_159 : decode b_MO_takeStep 159 = .ok (.aload_n 0, 1) := by decide +kernel
theorem d_MO_takeStep_160 : decode b_MO_takeStep 160 = .ok (.getfield 40, 3) := by decide +kernel
theorem d_MO_takeStep_163 : decode b_MO_takeStep 163 = .ok (.aload_n 0, 1) := by decide +kernel
theorem d_MO_takeStep_164 : decode b_MO_takeStep 164 = .ok (.getfield 34, 3) := by decide +kernel
theorem d_MO_takeStep_167 : decode b_MO_takeStep 167 = .ok (.iload_n 1, 1) := by decide +kernel
theorem d_MO_takeStep_168 : decode b_MO_takeStep 168 = .ok (.iaload, 1) := by decide +kernel
theorem d_MO_takeStep_169 : decode b_MO_takeStep 169 = .ok (.iload 6, 2) := by decide +kernel
theorem d_MO_takeStep_171 : decode b_MO_takeStep 171 = .ok (.iadd, 1) := by decide +kernel
theorem d_MO_takeStep_172 : decode b_MO_takeStep 172 = .ok (.iaload, 1) := by decide +kernel
theorem d_MO_takeStep_173 : decode b_MO_takeStep 173 = .ok (.iastore, 1) := by decide +kernel
theorem d_MO_takeStep_174 : decode b_MO_takeStep 174 = .ok (.aload_n 0, 1) := by decide +kernel
theorem d_MO_takeStep_175 : decode b_MO_takeStep 175 = .ok (.getfield 146, 3) := by decide +kernel
theorem d_MO_takeStep_178 : decode b_MO_takeStep 178 = .ok (.iload 5, 2) := by decide +kernel
theorem d_MO_takeStep_180 : decode b_MO_takeStep 180 = .ok (.iload 6, 2) := by decide +kernel
theorem d_MO_takeStep_182 : decode b_MO_takeStep 182 = .ok (.iadd, 1) := by decide +kernel
theorem d_MO_takeStep_183 : decode b_MO_takeStep 183 = .ok (.aload_n 0, 1) := by decide +kernel
theorem d_MO_takeStep_184 : decode b_MO_takeStep 184 = .ok (.getfield 43, 3) := by decide +kernel
theorem d_MO_takeStep_187 : decode b_MO_takeStep 187 = .ok (.aload_n 0, 1) := by decide +kernel
theorem d_MO_takeStep_188 : decode b_MO_takeStep 188 = .ok (.getfield 34, 3) := by decide +kernel
theorem d_MO_takeStep_191 : decode b_MO_takeStep 191 = .ok (.iload_n 1, 1) := by decide +kernel
theorem d_MO_takeStep_192 : decode b_MO_takeStep 192 = .ok (.iaload, 1) := by decide +kernel
theorem d_MO_takeStep_193 : decode b_MO_takeStep 193 = .ok (.iload 6, 2) := by decide +kernel
theorem d_MO_takeStep_195 : decode b_MO_takeStep 195 = .ok (.iadd, 1) := by decide +kernel
theorem d_MO_takeStep_196 : decode b_MO_takeStep 196 = .ok (.iaload, 1) := by decide +kernel
theorem d_MO_takeStep_197 : decode b_MO_takeStep 197 = .ok (.iastore, 1) := by decide +kernel
theorem d_MO_takeStep_198 : decode b_MO_takeStep 198 = .ok (.iinc 6 1, 3) := by decide +kernel
theorem d_MO_takeStep_201 : decode b_MO_takeStep 201 = .ok (.goto (-62), 3) := by decide +kernel
theorem d_MO_takeStep_204 : decode b_MO_takeStep 204 = .ok (.aload_n 0, 1) := by decide +kernel
theorem d_MO_takeStep_205 : decode b_MO_takeStep 205 = .ok (.getfield 149, 3) := by decide +kernel
theorem d_MO_takeStep_208 : decode b_MO_takeStep 208 = .ok (.aload_n 0, 1) := by decide +kernel
theorem d_MO_takeStep_209 : decode b_MO_takeStep 209 = .ok (.getfield 438, 3) := by decide +kernel
theorem d_MO_takeStep_212 : decode b_MO_takeStep 212 = .ok (.dup2, 1) := by decide +kernel
theorem d_MO_takeStep_213 : decode b_MO_takeStep 213 = .ok (.iaload, 1) := by decide +kernel
theorem d_MO_takeStep_214 : decode b_MO_takeStep 214 = .ok (.aload_n 0, 1) := by decide +kernel
theorem d_MO_takeStep_215 : decode b_MO_takeStep 215 = .ok (.getfield 37, 3) := by decide +kernel
theorem d_MO_takeStep_218 : decode b_MO_takeStep 218 = .ok (.iload_n 1, 1) := by decide +kernel
theorem d_MO_takeStep_219 : decode b_MO_takeStep 219 = .ok (.iaload, 1) := by decide +kernel
theorem d_MO_takeStep_220 : decode b_MO_takeStep 220 = .ok (.iadd, 1) := by decide +kernel
theorem d_MO_takeStep_221 : decode b_MO_takeStep 221 = .ok (.iastore, 1) := by decide +kernel
theorem d_MO_takeStep_222 : decode b_MO_takeStep 222 = .ok (.aload_n 0, 1) := by decide +kernel
theorem d_MO_takeStep_223 : decode b_MO_takeStep 223 = .ok (.getfield 134, 3) := by decide +kernel
theorem d_MO_takeStep_226 : decode b_MO_takeStep 226 = .ok (.iload 4, 2) := by decide +kernel
theorem d_MO_takeStep_228 : decode b_MO_takeStep 228 = .ok (.iload_n 1, 1) := by decide +kernel
theorem d_MO_takeStep_229 : decode b_MO_takeStep 229 = .ok (.iastore, 1) := by decide +kernel
theorem d_MO_takeStep_230 : decode b_MO_takeStep 230 = .ok (.aload_n 0, 1) := by decide +kernel
theorem d_MO_takeStep_231 : decode b_MO_takeStep 231 = .ok (.getfield 137, 3) := by decide +kernel
theorem d_MO_takeStep_234 : decode b_MO_takeStep 234 = .ok (.iload 4, 2) := by decide +kernel
theorem d_MO_takeStep_236 : decode b_MO_takeStep 236 = .ok (.iload 5, 2) := by decide +kernel
theorem d_MO_takeStep_238 : decode b_MO_takeStep 238 = .ok (.iastore, 1) := by decide +kernel
theorem d_MO_takeStep_239 : decode b_MO_takeStep 239 = .ok (.aload_n 0, 1) := by decide +kernel
theorem d_MO_takeStep_240 : decode b_MO_takeStep 240 = .ok (.getfield 140, 3) := by decide +kernel
theorem d_MO_takeStep_243 : decode b_MO_takeStep 243 = .ok (.iload 4, 2) := by decide +kernel
theorem d_MO_takeStep_245 : decode b_MO_takeStep 245 = .ok (.aload_n 0, 1) := by decide +kernel
theorem d_MO_takeStep_246 : decode b_MO_takeStep 246 = .ok (.getfield 37, 3) := by decide +kernel
theorem d_MO_takeStep_249 : decode b_MO_takeStep 249 = .ok (.iload_n 1, 1) := by decide +kernel
theorem d_MO_takeStep_250 : decode b_MO_takeStep 250 = .ok (.iaload, 1) := by decide +kernel
theorem d_MO_takeStep_251 : decode b_MO_takeStep 251 = .ok (.iastore, 1) := by decide +kernel
theorem d_MO_takeStep_252 : decode b_MO_takeStep 252 = .ok (.iload_n 3, 1) := by decide +kernel
theorem d_MO_takeStep_253 : decode b_MO_takeStep 253 = .ok (.ireturn, 1) := by decide +kernel
