theorem d_MO_openRound_31 : decode b_MO_openRound 31 = .ok (.iconst (-1), 1) := by decide +kernel
theorem d_MO_openRound_32 : decode b_MO_openRound 32 = .ok (.iconst (-1), 1) := by decide +kernel
theorem d_MO_openRound_33 : decode b_MO_openRound 33 = .ok (.invokevirtual 441, 3) := by decide +kernel
theorem d_MO_openRound_36 : decode b_MO_openRound 36 = .ok (.iastore, 1) := by decide +kernel
theorem d_MO_openRound_37 : decode b_MO_openRound 37 = .ok (.iinc 4 1, 3) := by decide +kernel
theorem d_MO_openRound_40 : decode b_MO_openRound 40 = .ok (.goto (-25), 3) := by decide +kernel
theorem d_MO_openRound_43 : decode b_MO_openRound 43 = .ok (.aload_n 0, 1) := by decide +kernel
theorem d_MO_openRound_44 : decode b_MO_openRound 44 = .ok (.getfield 167, 3) := by decide +kernel
theorem d_MO_openRound_47 : decode b_MO_openRound 47 = .ok (.iload_n 1, 1) := by decide +kernel
theorem d_MO_openRound_48 : decode b_MO_openRound 48 = .ok (.iload_n 3, 1) := by decide +kernel
theorem d_MO_openRound_49 : decode b_MO_openRound 49 = .ok (.iastore, 1) := by decide +kernel
theorem d_MO_openRound_50 : decode b_MO_openRound 50 = .ok (.aload_n 0, 1) := by decide +kernel
theorem d_MO_openRound_51 : decode b_MO_openRound 51 = .ok (.getfield 170, 3) := by decide +kernel
theorem d_MO_openRound_54 : decode b_MO_openRound 54 = .ok (.iload_n 1, 1) := by decide +kernel
theorem d_MO_openRound_55 : decode b_MO_openRound 55 = .ok (.iconst 1, 1) := by decide +kernel
theorem d_MO_openRound_56 : decode b_MO_openRound 56 = .ok (.iastore, 1) := by decide +kernel
theorem d_MO_openRound_57 : decode b_MO_openRound 57 = .ok (.aload_n 0, 1) := by decide +kernel
theorem d_MO_openRound_58 : decode b_MO_openRound 58 = .ok (.invokevirtual 454, 3) := by decide +kernel
theorem d_MO_openRound_61 : decode b_MO_openRound 61 = .ok (.istore 4, 2) := by decide +kernel
theorem d_MO_openRound_63 : decode b_MO_openRound 63 = .ok (.iconst 0, 1) := by decide +kernel
theorem d_MO_openRound_64 : decode b_MO_openRound 64 = .ok (.istore 5, 2) := by decide +kernel
theorem d_MO_openRound_66 : decode b_MO_openRound 66 = .ok (.iload 5, 2) := by decide +kernel
theorem d_MO_openRound_68 : decode b_MO_openRound 68 = .ok (.iload_n 2, 1) := by decide +kernel
theorem d_MO_openRound_69 : decode b_MO_openRound 69 = .ok (.if_icmp .gt 20, 3) := by decide +kernel
theorem d_MO_openRound_72 : decode b_MO_openRound 72 = .ok (.aload_n 0, 1) := by decide +kernel
theorem d_MO_openRound_73 : decode b_MO_openRound 73 = .ok (.getfield 174, 3) := by decide +kernel
theorem d_MO_openRound_76 : decode b_MO_openRound 76 = .ok (.iload 4, 2) := by decide +kernel
theorem d_MO_openRound_78 : decode b_MO_openRound 78 = .ok (.iload 5, 2) := by decide +kernel
theorem d_MO_openRound_80 : decode b_MO_openRound 80 = .ok (.iadd, 1) := by decide +kernel
theorem d_MO_openRound_81 : decode b_MO_openRound 81 = .ok (.iconst 1, 1) := by decide +kernel
theorem d_MO_openRound_82 : decode b_MO_openRound 82 = .ok (.iastore, 1) := by decide +kernel
theorem d_MO_openRound_83 : decode b_MO_openRound 83 = .ok (.iinc 5 1, 3) := by decide +kernel
theorem d_MO_openRound_86 : decode b_MO_openRound 86 = .ok (.goto (-20), 3) := by decide +kernel
theorem d_MO_openRound_89 : decode b_MO_openRound 89 = .ok (.aload_n 0, 1) := by decide +kernel
theorem d_MO_openRound_90 : decode b_MO_openRound 90 = .ok (.getfield 174, 3) := by decide +kernel
theorem d_MO_openRound_93 : decode b_MO_openRound 93 = .ok (.iload 4, 2) := by decide +kernel
theorem d_MO_openRound_95 : decode b_MO_openRound 95 = .ok (.iload_n 2, 1) := by decide +kernel
theorem d_MO_openRound_96 : decode b_MO_openRound 96 = .ok (.iadd, 1) := by decide +kernel
theorem d_MO_openRound_97 : decode b_MO_openRound 97 = .ok (.iconst 1, 1) := by decide +kernel
theorem d_MO_openRound_98 : decode b_MO_openRound 98 = .ok (.iadd, 1) := by decide +kernel
theorem d_MO_openRound_99 : decode b_MO_openRound 99 = .ok (.aload_n 0, 1) := by decide +kernel
theorem d_MO_openRound_100 : decode b_MO_openRound 100 = .ok (.getfield 174, 3) := by decide +kernel
theorem d_MO_openRound_103 : decode b_MO_openRound 103 = .ok (.iload_n 3, 1) := by decide +kernel
theorem d_MO_openRound_104 : decode b_MO_openRound 104 = .ok (.iload_n 2, 1) := by decide +kernel
theorem d_MO_openRound_105 : decode b_MO_openRound 105 = .ok (.iadd, 1) := by decide +kernel
theorem d_MO_openRound_106 : decode b_MO_openRound 106 = .ok (.iaload, 1) := by decide +kernel
theorem d_MO_openRound_107 : decode b_MO_openRound 107 = .ok (.iastore, 1) := by decide +kernel
theorem d_MO_openRound_108 : decode b_MO_openRound 108 = .ok (.aload_n 0, 1) := by decide +kernel
theorem d_MO_openRound_109 : decode b_MO_openRound 109 = .ok (.aload_n 0, 1) := by decide +kernel
theorem d_MO_openRound_110 : decode b_MO_openRound 110 = .ok (.getfield 56, 3) := by decide +kernel
theorem d_MO_openRound_113 : decode b_MO_openRound 113 = .ok (.aload_n 0, 1) := by decide +kernel
theorem d_MO_openRound_114 : decode b_MO_openRound 114 = .ok (.getfield 158, 3) := by decide +kernel
theorem d_MO_openRound_117 : decode b_MO_openRound 117 = .ok (.iload_n 1, 1) := by decide +kernel
theorem d_MO_openRound_118 : decode b_MO_openRound 118 = .ok (.iaload, 1) := by decide +kernel
theorem d_MO_openRound_119 : decode b_MO_openRound 119 = .ok (.iaload, 1) := by decide +kernel
theorem d_MO_openRound_120 : decode b_MO_openRound 120 = .ok (.iload_n 2, 1) := by decide +kernel
theorem d_MO_openRound_121 : decode b_MO_openRound 121 = .ok (.iconst 1, 1) := by decide +kernel
theorem d_MO_openRound_122 : decode b_MO_openRound 122 = .ok (.iadd, 1) := by decide +kernel
theorem d_MO_openRound_123 : decode b_MO_openRound 123 = .ok (.iload 4, 2) := by decide +kernel
theorem d_MO_openRound_125 : decode b_MO_openRound 125 = .ok (.invokevirtual 464, 3) := by decide +kernel
theorem d_MO_openRound_128 : decode b_MO_openRound 128 = .ok (.return_, 1) := by decide +kernel
theorem d_MO_split2_0 : decode b_MO_split2 0 = .ok (.aload_n 0, 1) := by decide +kernel
theorem d_MO_split2_1 : decode b_MO_split2 1 = .ok (.getfield 72, 3) := by decide +kernel
theorem d_MO_split2_4 : decode b_MO_split2 4 = .ok (.iload_n 1, 1) := by decide +kernel
theorem d_MO_split2_5 : decode b_MO_split2 5 = .ok (.baload, 1) := by decide +kernel
theorem d_MO_split2_6 : decode b_MO_split2 6 = .ok (.ifCond .eq 14, 3) := by decide +kernel
theorem d_MO_split2_9 : decode b_MO_split2 9 = .ok (.aload_n 0, 1) := by decide +kernel
theorem d_MO_split2_10 : decode b_MO_split2 10 = .ok (.iload_n 3, 1) := by decide +kernel
theorem d_MO_split2_11 : decode b_MO_split2 11 = .ok (.iload_n 2, 1) := by decide +kernel
theorem d_MO_split2_12 : decode b_MO_split2 12 = .ok (.iload 4, 2) := by decide +kernel
theorem d_MO_split2_14 : decode b_MO_split2 14 = .ok (.invokevirtual 467, 3) := by decide +kernel
theorem d_MO_split2_17 : decode b_MO_split2 17 = .ok (.goto 11, 3) := by decide +kernel
theorem d_MO_split2_20 : decode b_MO_split2 20 = .ok (.aload_n 0, 1) := by decide +kernel
theorem d_MO_split2_21 : decode b_MO_split2 21 = .ok (.iload_n 2, 1) := by decide +kernel
theorem d_MO_split2_22 : decode b_MO_split2 22 = .ok (.iload_n 3, 1) := by decide +kernel
theorem d_MO_split2_23 : decode b_MO_split2 23 = .ok (.iload 4, 2) := by decide +kernel
theorem d_MO_split2_25 : decode b_MO_split2 25 = .ok (.invokevirtual 467, 3) := by decide +kernel
theorem d_MO_split2_28 : decode b_MO_split2 28 = .ok (.ireturn, 1) := by decide +kernel
