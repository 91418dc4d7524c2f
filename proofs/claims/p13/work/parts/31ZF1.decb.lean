theorem d_MO_readPart_312 : decode b_MO_readPart 312 = .ok (.return_, 1) := by decide +kernel
theorem d_MO_readRepeat_0 : decode b_MO_readRepeat 0 = .ok (.aload_n 0, 1) := by decide +kernel
theorem d_MO_readRepeat_1 : decode b_MO_readRepeat 1 = .ok (.getfield 279, 3) := by decide +kernel
theorem d_MO_readRepeat_4 : decode b_MO_readRepeat 4 = .ok (.istore_n 2, 1) := by decide +kernel
theorem d_MO_readRepeat_5 : decode b_MO_readRepeat 5 = .ok (.aload_n 0, 1) := by decide +kernel
theorem d_MO_readRepeat_6 : decode b_MO_readRepeat 6 = .ok (.getfield 100, 3) := by decide +kernel
theorem d_MO_readRepeat_9 : decode b_MO_readRepeat 9 = .ok (.aload_n 0, 1) := by decide +kernel
theorem d_MO_readRepeat_10 : decode b_MO_readRepeat 10 = .ok (.getfield 282, 3) := by decide +kernel
theorem d_MO_readRepeat_13 : decode b_MO_readRepeat 13 = .ok (.iaload, 1) := by decide +kernel
theorem d_MO_readRepeat_14 : decode b_MO_readRepeat 14 = .ok (.iconst 1, 1) := by decide +kernel
theorem d_MO_readRepeat_15 : decode b_MO_readRepeat 15 = .ok (.if_icmp .eq 13, 3) := by decide +kernel
theorem d_MO_readRepeat_18 : decode b_MO_readRepeat 18 = .ok (.aload_n 0, 1) := by decide +kernel
theorem d_MO_readRepeat_19 : decode b_MO_readRepeat 19 = .ok (.bipush 8, 2) := by decide +kernel
theorem d_MO_readRepeat_21 : decode b_MO_readRepeat 21 = .ok (.iload_n 2, 1) := by decide +kernel
theorem d_MO_readRepeat_22 : decode b_MO_readRepeat 22 = .ok (.invokevirtual 304, 3) := by decide +kernel
theorem d_MO_readRepeat_25 : decode b_MO_readRepeat 25 = .ok (.goto 46, 3) := by decide +kernel
theorem d_MO_readRepeat_28 : decode b_MO_readRepeat 28 = .ok (.aload_n 0, 1) := by decide +kernel
theorem d_MO_readRepeat_29 : decode b_MO_readRepeat 29 = .ok (.getfield 403, 3) := by decide +kernel
theorem d_MO_readRepeat_32 : decode b_MO_readRepeat 32 = .ok (.bipush 100, 2) := by decide +kernel
theorem d_MO_readRepeat_34 : decode b_MO_readRepeat 34 = .ok (.if_icmp .gt 30, 3) := by decide +kernel
theorem d_MO_readRepeat_37 : decode b_MO_readRepeat 37 = .ok (.aload_n 0, 1) := by decide +kernel
theorem d_MO_readRepeat_38 : decode b_MO_readRepeat 38 = .ok (.getfield 406, 3) := by decide +kernel
theorem d_MO_readRepeat_41 : decode b_MO_readRepeat 41 = .ok (.bipush 100, 2) := by decide +kernel
theorem d_MO_readRepeat_43 : decode b_MO_readRepeat 43 = .ok (.if_icmp .gt 21, 3) := by decide +kernel
theorem d_MO_readRepeat_46 : decode b_MO_readRepeat 46 = .ok (.aload_n 0, 1) := by decide +kernel
theorem d_MO_readRepeat_47 : decode b_MO_readRepeat 47 = .ok (.getfield 406, 3) := by decide +kernel
theorem d_MO_readRepeat_50 : decode b_MO_readRepeat 50 = .ok (.ifCond .lt 21, 3) := by decide +kernel
theorem d_MO_readRepeat_53 : decode b_MO_readRepeat 53 = .ok (.aload_n 0, 1) := by decide +kernel
theorem d_MO_readRepeat_54 : decode b_MO_readRepeat 54 = .ok (.getfield 403, 3) := by decide +kernel
theorem d_MO_readRepeat_57 : decode b_MO_readRepeat 57 = .ok (.aload_n 0, 1) := by decide +kernel
theorem d_MO_readRepeat_58 : decode b_MO_readRepeat 58 = .ok (.getfield 406, 3) := by decide +kernel
theorem d_MO_readRepeat_61 : decode b_MO_readRepeat 61 = .ok (.if_icmp .le 10, 3) := by decide +kernel
theorem d_MO_readRepeat_64 : decode b_MO_readRepeat 64 = .ok (.aload_n 0, 1) := by decide +kernel
theorem d_MO_readRepeat_65 : decode b_MO_readRepeat 65 = .ok (.bipush 9, 2) := by decide +kernel
theorem d_MO_readRepeat_67 : decode b_MO_readRepeat 67 = .ok (.iload_n 2, 1) := by decide +kernel
theorem d_MO_readRepeat_68 : decode b_MO_readRepeat 68 = .ok (.invokevirtual 304, 3) := by decide +kernel
theorem d_MO_readRepeat_71 : decode b_MO_readRepeat 71 = .ok (.aload_n 0, 1) := by decide +kernel
theorem d_MO_readRepeat_72 : decode b_MO_readRepeat 72 = .ok (.getfield 273, 3) := by decide +kernel
theorem d_MO_readRepeat_75 : decode b_MO_readRepeat 75 = .ok (.ifCond .le 4, 3) := by decide +kernel
theorem d_MO_readRepeat_78 : decode b_MO_readRepeat 78 = .ok (.return_, 1) := by decide +kernel
theorem d_MO_readRepeat_79 : decode b_MO_readRepeat 79 = .ok (.aload_n 0, 1) := by decide +kernel
theorem d_MO_readRepeat_80 : decode b_MO_readRepeat 80 = .ok (.dup, 1) := by decide +kernel
theorem d_MO_readRepeat_81 : decode b_MO_readRepeat 81 = .ok (.getfield 279, 3) := by decide +kernel
theorem d_MO_readRepeat_84 : decode b_MO_readRepeat 84 = .ok (.iload_n 1, 1) := by decide +kernel
theorem d_MO_readRepeat_85 : decode b_MO_readRepeat 85 = .ok (.iadd, 1) := by decide +kernel
theorem d_MO_readRepeat_86 : decode b_MO_readRepeat 86 = .ok (.putfield 279, 3) := by decide +kernel
theorem d_MO_readRepeat_89 : decode b_MO_readRepeat 89 = .ok (.aload_n 0, 1) := by decide +kernel
theorem d_MO_readRepeat_90 : decode b_MO_readRepeat 90 = .ok (.iconst 0, 1) := by decide +kernel
theorem d_MO_readRepeat_91 : decode b_MO_readRepeat 91 = .ok (.invokevirtual 297, 3) := by decide +kernel
theorem d_MO_readRepeat_94 : decode b_MO_readRepeat 94 = .ok (.bipush 63, 2) := by decide +kernel
theorem d_MO_readRepeat_96 : decode b_MO_readRepeat 96 = .ok (.if_icmp .ne 7, 3) := by decide +kernel
theorem d_MO_readRepeat_99 : decode b_MO_readRepeat 99 = .ok (.iconst 1, 1) := by decide +kernel
theorem d_MO_readRepeat_100 : decode b_MO_readRepeat 100 = .ok (.goto 4, 3) := by decide +kernel
theorem d_MO_readRepeat_103 : decode b_MO_readRepeat 103 = .ok (.iconst 0, 1) := by decide +kernel
theorem d_MO_readRepeat_104 : decode b_MO_readRepeat 104 = .ok (.istore_n 3, 1) := by decide +kernel
theorem d_MO_readRepeat_105 : decode b_MO_readRepeat 105 = .ok (.aload_n 0, 1) := by decide +kernel
theorem d_MO_readRepeat_106 : decode b_MO_readRepeat 106 = .ok (.dup, 1) := by decide +kernel
theorem d_MO_readRepeat_107 : decode b_MO_readRepeat 107 = .ok (.getfield 279, 3) := by decide +kernel
theorem d_MO_readRepeat_110 : decode b_MO_readRepeat 110 = .ok (.iload_n 3, 1) := by decide +kernel
theorem d_MO_readRepeat_111 : decode b_MO_readRepeat 111 = .ok (.ifCond .eq 7, 3) := by decide +kernel
theorem d_MO_readRepeat_114 : decode b_MO_readRepeat 114 = .ok (.iconst 1, 1) := by decide +kernel
theorem d_MO_readRepeat_115 : decode b_MO_readRepeat 115 = .ok (.goto 4, 3) := by decide +kernel
theorem d_MO_readRepeat_118 : decode b_MO_readRepeat 118 = .ok (.iconst 0, 1) := by decide +kernel
theorem d_MO_readRepeat_119 : decode b_MO_readRepeat 119 = .ok (.iadd, 1) := by decide +kernel
theorem d_MO_readRepeat_120 : decode b_MO_readRepeat 120 = .ok (.putfield 279, 3) := by decide +kernel
theorem d_MO_readRepeat_123 : decode b_MO_readRepeat 123 = .ok (.aload_n 0, 1) := by decide +kernel
theorem d_MO_readRepeat_124 : decode b_MO_readRepeat 124 = .ok (.aload_n 0, 1) := by decide +kernel
theorem d_MO_readRepeat_125 : decode b_MO_readRepeat 125 = .ok (.getfield 403, 3) := by decide +kernel
theorem d_MO_readRepeat_128 : decode b_MO_readRepeat 128 = .ok (.aload_n 0, 1) := by decide +kernel
theorem d_MO_readRepeat_129 : decode b_MO_readRepeat 129 = .ok (.getfield 406, 3) := by decide +kernel
theorem d_MO_readRepeat_132 : decode b_MO_readRepeat 132 = .ok (.iload_n 3, 1) := by decide +kernel
theorem d_MO_readRepeat_133 : decode b_MO_readRepeat 133 = .ok (.aload_n 0, 1) := by decide +kernel
theorem d_MO_readRepeat_134 : decode b_MO_readRepeat 134 = .ok (.bipush 8, 2) := by decide +kernel
theorem d_MO_readRepeat_136 : decode b_MO_readRepeat 136 = .ok (.invokevirtual 355, 3) := by decide +kernel
theorem d_MO_readRepeat_139 : decode b_MO_readRepeat 139 = .ok (.if_icmp .eq 7, 3) := by decide +kernel
theorem d_MO_readRepeat_142 : decode b_MO_readRepeat 142 = .ok (.iconst 1, 1) := by decide +kernel
theorem d_MO_readRepeat_143 : decode b_MO_readRepeat 143 = .ok (.goto 4, 3) := by decide +kernel
theorem d_MO_readRepeat_146 : decode b_MO_readRepeat 146 = .ok (.iconst 0, 1) := by decide +kernel
theorem d_MO_readRepeat_147 : decode b_MO_readRepeat 147 = .ok (.invokevirtual 409, 3) := by decide +kernel
theorem d_MO_readRepeat_150 : decode b_MO_readRepeat 150 = .ok (.return_, 1) := by decide +kernel
