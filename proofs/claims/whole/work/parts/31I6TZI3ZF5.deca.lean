theorem d_MO_closeGroup_0 : decode b_MO_closeGroup 0 = .ok (.aload_n 0, 1) := by decide +kernel
theorem d_MO_closeGroup_1 : decode b_MO_closeGroup 1 = .ok (.getfield 282, 3) := by decide +kernel
theorem d_MO_closeGroup_4 : decode b_MO_closeGroup 4 = .ok (.ifCond .ne 13, 3) := by decide +kernel
theorem d_MO_closeGroup_7 : decode b_MO_closeGroup 7 = .ok (.aload_n 0, 1) := by decide +kernel
theorem d_MO_closeGroup_8 : decode b_MO_closeGroup 8 = .ok (.iconst 3, 1) := by decide +kernel
theorem d_MO_closeGroup_9 : decode b_MO_closeGroup 9 = .ok (.aload_n 0, 1) := by decide +kernel
theorem d_MO_closeGroup_10 : decode b_MO_closeGroup 10 = .ok (.getfield 279, 3) := by decide +kernel
theorem d_MO_closeGroup_13 : decode b_MO_closeGroup 13 = .ok (.invokevirtual 304, 3) := by decide +kernel
theorem d_MO_closeGroup_16 : decode b_MO_closeGroup 16 = .ok (.return_, 1) := by decide +kernel
theorem d_MO_closeGroup_17 : decode b_MO_closeGroup 17 = .ok (.aload_n 0, 1) := by decide +kernel
theorem d_MO_closeGroup_18 : decode b_MO_closeGroup 18 = .ok (.invokevirtual 398, 3) := by decide +kernel
theorem d_MO_closeGroup_21 : decode b_MO_closeGroup 21 = .ok (.istore_n 1, 1) := by decide +kernel
theorem d_MO_closeGroup_22 : decode b_MO_closeGroup 22 = .ok (.aload_n 0, 1) := by decide +kernel
theorem d_MO_closeGroup_23 : decode b_MO_closeGroup 23 = .ok (.getfield 85, 3) := by decide +kernel
theorem d_MO_closeGroup_26 : decode b_MO_closeGroup 26 = .ok (.aload_n 0, 1) := by decide +kernel
theorem d_MO_closeGroup_27 : decode b_MO_closeGroup 27 = .ok (.getfield 282, 3) := by decide +kernel
theorem d_MO_closeGroup_30 : decode b_MO_closeGroup 30 = .ok (.iaload, 1) := by decide +kernel
theorem d_MO_closeGroup_31 : decode b_MO_closeGroup 31 = .ok (.istore_n 2, 1) := by decide +kernel
theorem d_MO_closeGroup_32 : decode b_MO_closeGroup 32 = .ok (.aload_n 0, 1) := by decide +kernel
theorem d_MO_closeGroup_33 : decode b_MO_closeGroup 33 = .ok (.aload_n 0, 1) := by decide +kernel
theorem d_MO_closeGroup_34 : decode b_MO_closeGroup 34 = .ok (.getfield 82, 3) := by decide +kernel
theorem d_MO_closeGroup_37 : decode b_MO_closeGroup 37 = .ok (.aload_n 0, 1) := by decide +kernel
theorem d_MO_closeGroup_38 : decode b_MO_closeGroup 38 = .ok (.getfield 282, 3) := by decide +kernel
theorem d_MO_closeGroup_41 : decode b_MO_closeGroup 41 = .ok (.iaload, 1) := by decide +kernel
theorem d_MO_closeGroup_42 : decode b_MO_closeGroup 42 = .ok (.putfield 276, 3) := by decide +kernel
theorem d_MO_closeGroup_45 : decode b_MO_closeGroup 45 = .ok (.aload_n 0, 1) := by decide +kernel
theorem d_MO_closeGroup_46 : decode b_MO_closeGroup 46 = .ok (.dup, 1) := by decide +kernel
theorem d_MO_closeGroup_47 : decode b_MO_closeGroup 47 = .ok (.getfield 282, 3) := by decide +kernel
theorem d_MO_closeGroup_50 : decode b_MO_closeGroup 50 = .ok (.iconst 1, 1) := by decide +kernel
theorem d_MO_closeGroup_51 : decode b_MO_closeGroup 51 = .ok (.isub, 1) := by decide +kernel
theorem d_MO_closeGroup_52 : decode b_MO_closeGroup 52 = .ok (.putfield 282, 3) := by decide +kernel
theorem d_MO_closeGroup_55 : decode b_MO_closeGroup 55 = .ok (.aload_n 0, 1) := by decide +kernel
theorem d_MO_closeGroup_56 : decode b_MO_closeGroup 56 = .ok (.bipush 6, 2) := by decide +kernel
theorem d_MO_closeGroup_58 : decode b_MO_closeGroup 58 = .ok (.iload_n 2, 1) := by decide +kernel
theorem d_MO_closeGroup_59 : decode b_MO_closeGroup 59 = .ok (.aload_n 0, 1) := by decide +kernel
theorem d_MO_closeGroup_60 : decode b_MO_closeGroup 60 = .ok (.getfield 68, 3) := by decide +kernel
theorem d_MO_closeGroup_63 : decode b_MO_closeGroup 63 = .ok (.iload_n 1, 1) := by decide +kernel
theorem d_MO_closeGroup_64 : decode b_MO_closeGroup 64 = .ok (.laload, 1) := by decide +kernel
theorem d_MO_closeGroup_65 : decode b_MO_closeGroup 65 = .ok (.iload_n 2, 1) := by decide +kernel
theorem d_MO_closeGroup_66 : decode b_MO_closeGroup 66 = .ok (.ifCond .le 9, 3) := by decide +kernel
theorem d_MO_closeGroup_69 : decode b_MO_closeGroup 69 = .ok (.ldc2_w 401, 3) := by decide +kernel
theorem d_MO_closeGroup_72 : decode b_MO_closeGroup 72 = .ok (.goto 4, 3) := by decide +kernel
theorem d_MO_closeGroup_75 : decode b_MO_closeGroup 75 = .ok (.lconst 0, 1) := by decide +kernel
theorem d_MO_closeGroup_76 : decode b_MO_closeGroup 76 = .ok (.ladd, 1) := by decide +kernel
theorem d_MO_closeGroup_77 : decode b_MO_closeGroup 77 = .ok (.invokestatic 288, 3) := by decide +kernel
theorem d_MO_closeGroup_80 : decode b_MO_closeGroup 80 = .ok (.invokevirtual 269, 3) := by decide +kernel
theorem d_MO_closeGroup_83 : decode b_MO_closeGroup 83 = .ok (.istore_n 3, 1) := by decide +kernel
theorem d_MO_closeGroup_84 : decode b_MO_closeGroup 84 = .ok (.aload_n 0, 1) := by decide +kernel
theorem d_MO_closeGroup_85 : decode b_MO_closeGroup 85 = .ok (.getfield 56, 3) := by decide +kernel
theorem d_MO_closeGroup_88 : decode b_MO_closeGroup 88 = .ok (.iload_n 3, 1) := by decide +kernel
theorem d_MO_closeGroup_89 : decode b_MO_closeGroup 89 = .ok (.iload_n 1, 1) := by decide +kernel
theorem d_MO_closeGroup_90 : decode b_MO_closeGroup 90 = .ok (.iastore, 1) := by decide +kernel
theorem d_MO_closeGroup_91 : decode b_MO_closeGroup 91 = .ok (.aload_n 0, 1) := by decide +kernel
theorem d_MO_closeGroup_92 : decode b_MO_closeGroup 92 = .ok (.iload_n 3, 1) := by decide +kernel
theorem d_MO_closeGroup_93 : decode b_MO_closeGroup 93 = .ok (.iconst 1, 1) := by decide +kernel
theorem d_MO_closeGroup_94 : decode b_MO_closeGroup 94 = .ok (.invokevirtual 375, 3) := by decide +kernel
theorem d_MO_closeGroup_97 : decode b_MO_closeGroup 97 = .ok (.aload_n 0, 1) := by decide +kernel
theorem d_MO_closeGroup_98 : decode b_MO_closeGroup 98 = .ok (.dup, 1) := by decide +kernel
theorem d_MO_closeGroup_99 : decode b_MO_closeGroup 99 = .ok (.getfield 279, 3) := by decide +kernel
theorem d_MO_closeGroup_102 : decode b_MO_closeGroup 102 = .ok (.iconst 1, 1) := by decide +kernel
theorem d_MO_closeGroup_103 : decode b_MO_closeGroup 103 = .ok (.iadd, 1) := by decide +kernel
theorem d_MO_closeGroup_104 : decode b_MO_closeGroup 104 = .ok (.putfield 279, 3) := by decide +kernel
theorem d_MO_closeGroup_107 : decode b_MO_closeGroup 107 = .ok (.return_, 1) := by decide +kernel
theorem d_MO_numbersEnd_0 : decode b_MO_numbersEnd 0 = .ok (.iconst 1, 1) := by decide +kernel
theorem d_MO_numbersEnd_1 : decode b_MO_numbersEnd 1 = .ok (.istore_n 1, 1) := by decide +kernel
theorem d_MO_numbersEnd_2 : decode b_MO_numbersEnd 2 = .ok (.iconst 0, 1) := by decide +kernel
theorem d_MO_numbersEnd_3 : decode b_MO_numbersEnd 3 = .ok (.istore_n 2, 1) := by decide +kernel
theorem d_MO_numbersEnd_4 : decode b_MO_numbersEnd 4 = .ok (.aload_n 0, 1) := by decide +kernel
theorem d_MO_numbersEnd_5 : decode b_MO_numbersEnd 5 = .ok (.iload_n 1, 1) := by decide +kernel
theorem d_MO_numbersEnd_6 : decode b_MO_numbersEnd 6 = .ok (.invokevirtual 297, 3) := by decide +kernel
theorem d_MO_numbersEnd_9 : decode b_MO_numbersEnd 9 = .ok (.bipush 48, 2) := by decide +kernel
theorem d_MO_numbersEnd_11 : decode b_MO_numbersEnd 11 = .ok (.if_icmp .lt 38, 3) := by decide +kernel
theorem d_MO_numbersEnd_14 : decode b_MO_numbersEnd 14 = .ok (.aload_n 0, 1) := by decide +kernel
theorem d_MO_numbersEnd_15 : decode b_MO_numbersEnd 15 = .ok (.iload_n 1, 1) := by decide +kernel
theorem d_MO_numbersEnd_16 : decode b_MO_numbersEnd 16 = .ok (.invokevirtual 297, 3) := by decide +kernel
theorem d_MO_numbersEnd_19 : decode b_MO_numbersEnd 19 = .ok (.bipush 57, 2) := by decide +kernel
theorem d_MO_numbersEnd_21 : decode b_MO_numbersEnd 21 = .ok (.if_icmp .gt 28, 3) := by decide +kernel
theorem d_MO_numbersEnd_24 : decode b_MO_numbersEnd 24 = .ok (.iload_n 1, 1) := by decide +kernel
theorem d_MO_numbersEnd_25 : decode b_MO_numbersEnd 25 = .ok (.iconst 5, 1) := by decide +kernel
theorem d_MO_numbersEnd_26 : decode b_MO_numbersEnd 26 = .ok (.if_icmp .ge 23, 3) := by decide +kernel
theorem d_MO_numbersEnd_29 : decode b_MO_numbersEnd 29 = .ok (.bipush 10, 2) := by decide +kernel
theorem d_MO_numbersEnd_31 : decode b_MO_numbersEnd 31 = .ok (.iload_n 2, 1) := by decide +kernel
theorem d_MO_numbersEnd_32 : decode b_MO_numbersEnd 32 = .ok (.imul, 1) := by decide +kernel
theorem d_MO_numbersEnd_33 : decode b_MO_numbersEnd 33 = .ok (.aload_n 0, 1) := by decide +kernel
theorem d_MO_numbersEnd_34 : decode b_MO_numbersEnd 34 = .ok (.iload_n 1, 1) := by decide +kernel
theorem d_MO_numbersEnd_35 : decode b_MO_numbersEnd 35 = .ok (.invokevirtual 297, 3) := by decide +kernel
theorem d_MO_numbersEnd_38 : decode b_MO_numbersEnd 38 = .ok (.iadd, 1) := by decide +kernel
theorem d_MO_numbersEnd_39 : decode b_MO_numbersEnd 39 = .ok (.bipush 48, 2) := by decide +kernel
theorem d_MO_numbersEnd_41 : decode b_MO_numbersEnd 41 = .ok (.isub, 1) := by decide +kernel
theorem d_MO_numbersEnd_42 : decode b_MO_numbersEnd 42 = .ok (.istore_n 2, 1) := by decide +kernel
theorem d_MO_numbersEnd_43 : decode b_MO_numbersEnd 43 = .ok (.iinc 1 1, 3) := by decide +kernel
theorem d_MO_numbersEnd_46 : decode b_MO_numbersEnd 46 = .ok (.goto (-42), 3) := by decide +kernel
theorem d_MO_numbersEnd_49 : decode b_MO_numbersEnd 49 = .ok (.iload_n 1, 1) := by decide +kernel
theorem d_MO_numbersEnd_50 : decode b_MO_numbersEnd 50 = .ok (.iconst 2, 1) := by decide +kernel
theorem d_MO_numbersEnd_51 : decode b_MO_numbersEnd 51 = .ok (.if_icmp .lt 8, 3) := by decide +kernel
theorem d_MO_numbersEnd_54 : decode b_MO_numbersEnd 54 = .ok (.iload_n 1, 1) := by decide +kernel
theorem d_MO_numbersEnd_55 : decode b_MO_numbersEnd 55 = .ok (.iconst 4, 1) := by decide +kernel
theorem d_MO_numbersEnd_56 : decode b_MO_numbersEnd 56 = .ok (.if_icmp .le 5, 3) := by decide +kernel
theorem d_MO_numbersEnd_59 : decode b_MO_numbersEnd 59 = .ok (.iconst (-1), 1) := by decide +kernel
theorem d_MO_numbersEnd_60 : decode b_MO_numbersEnd 60 = .ok (.ireturn, 1) := by decide +kernel
theorem d_MO_numbersEnd_61 : decode b_MO_numbersEnd 61 = .ok (.aload_n 0, 1) := by decide +kernel
theorem d_MO_numbersEnd_62 : decode b_MO_numbersEnd 62 = .ok (.iload_n 2, 1) := by decide +kernel
theorem d_MO_numbersEnd_63 : decode b_MO_numbersEnd 63 = .ok (.putfield 403, 3) := by decide +kernel
theorem d_MO_numbersEnd_66 : decode b_MO_numbersEnd 66 = .ok (.aload_n 0, 1) := by decide +kernel
theorem d_MO_numbersEnd_67 : decode b_MO_numbersEnd 67 = .ok (.iload_n 2, 1) := by decide +kernel
theorem d_MO_numbersEnd_68 : decode b_MO_numbersEnd 68 = .ok (.putfield 406, 3) := by decide +kernel
theorem d_MO_numbersEnd_71 : decode b_MO_numbersEnd 71 = .ok (.aload_n 0, 1) := by decide +kernel
theorem d_MO_numbersEnd_72 : decode b_MO_numbersEnd 72 = .ok (.iload_n 1, 1) := by decide +kernel
theorem d_MO_numbersEnd_73 : decode b_MO_numbersEnd 73 = .ok (.invokevirtual 297, 3) := by decide +kernel
theorem d_MO_numbersEnd_76 : decode b_MO_numbersEnd 76 = .ok (.bipush 44, 2) := by decide +kernel
theorem d_MO_numbersEnd_78 : decode b_MO_numbersEnd 78 = .ok (.if_icmp .ne 80, 3) := by decide +kernel
theorem d_MO_numbersEnd_81 : decode b_MO_numbersEnd 81 = .ok (.iinc 1 1, 3) := by decide +kernel
theorem d_MO_numbersEnd_84 : decode b_MO_numbersEnd 84 = .ok (.iload_n 1, 1) := by decide +kernel
theorem d_MO_numbersEnd_85 : decode b_MO_numbersEnd 85 = .ok (.istore_n 3, 1) := by decide +kernel
theorem d_MO_numbersEnd_86 : decode b_MO_numbersEnd 86 = .ok (.iconst 0, 1) := by decide +kernel
theorem d_MO_numbersEnd_87 : decode b_MO_numbersEnd 87 = .ok (.istore_n 2, 1) := by decide +kernel
theorem d_MO_numbersEnd_88 : decode b_MO_numbersEnd 88 = .ok (.aload_n 0, 1) := by decide +kernel
theorem d_MO_numbersEnd_89 : decode b_MO_numbersEnd 89 = .ok (.iload_n 1, 1) := by decide +kernel
theorem d_MO_numbersEnd_90 : decode b_MO_numbersEnd 90 = .ok (.invokevirtual 297, 3) := by decide +kernel
theorem d_MO_numbersEnd_93 : decode b_MO_numbersEnd 93 = .ok (.bipush 48, 2) := by decide +kernel
theorem d_MO_numbersEnd_95 : decode b_MO_numbersEnd 95 = .ok (.if_icmp .lt 40, 3) := by decide +kernel
theorem d_MO_numbersEnd_98 : decode b_MO_numbersEnd 98 = .ok (.aload_n 0, 1) := by decide +kernel
theorem d_MO_numbersEnd_99 : decode b_MO_numbersEnd 99 = .ok (.iload_n 1, 1) := by decide +kernel
theorem d_MO_numbersEnd_100 : decode b_MO_numbersEnd 100 = .ok (.invokevirtual 297, 3) := by decide +kernel
theorem d_MO_numbersEnd_103 : decode b_MO_numbersEnd 103 = .ok (.bipush 57, 2) := by decide +kernel
theorem d_MO_numbersEnd_105 : decode b_MO_numbersEnd 105 = .ok (.if_icmp .gt 30, 3) := by decide +kernel
theorem d_MO_numbersEnd_108 : decode b_MO_numbersEnd 108 = .ok (.iload_n 1, 1) := by decide +kernel
theorem d_MO_numbersEnd_109 : decode b_MO_numbersEnd 109 = .ok (.iload_n 3, 1) := by decide +kernel
theorem d_MO_numbersEnd_110 : decode b_MO_numbersEnd 110 = .ok (.iconst 4, 1) := by decide +kernel
theorem d_MO_numbersEnd_111 : decode b_MO_numbersEnd 111 = .ok (.iadd, 1) := by decide +kernel
theorem d_MO_numbersEnd_112 : decode b_MO_numbersEnd 112 = .ok (.if_icmp .ge 23, 3) := by decide +kernel
theorem d_MO_numbersEnd_115 : decode b_MO_numbersEnd 115 = .ok (.bipush 10, 2) := by decide +kernel
theorem d_MO_numbersEnd_117 : decode b_MO_numbersEnd 117 = .ok (.iload_n 2, 1) := by decide +kernel
theorem d_MO_numbersEnd_118 : decode b_MO_numbersEnd 118 = .ok (.imul, 1) := by decide +kernel
theorem d_MO_numbersEnd_119 : decode b_MO_numbersEnd 119 = .ok (.aload_n 0, 1) := by decide +kernel
theorem d_MO_numbersEnd_120 : decode b_MO_numbersEnd 120 = .ok (.iload_n 1, 1) := by decide +kernel
theorem d_MO_numbersEnd_121 : decode b_MO_numbersEnd 121 = .ok (.invokevirtual 297, 3) := by decide +kernel
theorem d_MO_numbersEnd_124 : decode b_MO_numbersEnd 124 = .ok (.iadd, 1) := by decide +kernel
theorem d_MO_numbersEnd_125 : decode b_MO_numbersEnd 125 = .ok (.bipush 48, 2) := by decide +kernel
theorem d_MO_numbersEnd_127 : decode b_MO_numbersEnd 127 = .ok (.isub, 1) := by decide +kernel
theorem d_MO_numbersEnd_128 : decode b_MO_numbersEnd 128 = .ok (.istore_n 2, 1) := by decide +kernel
theorem d_MO_numbersEnd_129 : decode b_MO_numbersEnd 129 = .ok (.iinc 1 1, 3) := by decide +kernel
theorem d_MO_numbersEnd_132 : decode b_MO_numbersEnd 132 = .ok (.goto (-44), 3) := by decide +kernel
theorem d_MO_numbersEnd_135 : decode b_MO_numbersEnd 135 = .ok (.iload_n 1, 1) := by decide +kernel
theorem d_MO_numbersEnd_136 : decode b_MO_numbersEnd 136 = .ok (.iload_n 3, 1) := by decide +kernel
theorem d_MO_numbersEnd_137 : decode b_MO_numbersEnd 137 = .ok (.iconst 3, 1) := by decide +kernel
theorem d_MO_numbersEnd_138 : decode b_MO_numbersEnd 138 = .ok (.iadd, 1) := by decide +kernel
theorem d_MO_numbersEnd_139 : decode b_MO_numbersEnd 139 = .ok (.if_icmp .le 5, 3) := by decide +kernel
theorem d_MO_numbersEnd_142 : decode b_MO_numbersEnd 142 = .ok (.iconst (-1), 1) := by decide +kernel
theorem d_MO_numbersEnd_143 : decode b_MO_numbersEnd 143 = .ok (.ireturn, 1) := by decide +kernel
theorem d_MO_numbersEnd_144 : decode b_MO_numbersEnd 144 = .ok (.aload_n 0, 1) := by decide +kernel
theorem d_MO_numbersEnd_145 : decode b_MO_numbersEnd 145 = .ok (.iload_n 1, 1) := by decide +kernel
theorem d_MO_numbersEnd_146 : decode b_MO_numbersEnd 146 = .ok (.iload_n 3, 1) := by decide +kernel
theorem d_MO_numbersEnd_147 : decode b_MO_numbersEnd 147 = .ok (.if_icmp .ne 7, 3) := by decide +kernel
theorem d_MO_numbersEnd_150 : decode b_MO_numbersEnd 150 = .ok (.iconst (-1), 1) := by decide +kernel
theorem d_MO_numbersEnd_151 : decode b_MO_numbersEnd 151 = .ok (.goto 4, 3) := by decide +kernel
theorem d_MO_numbersEnd_154 : decode b_MO_numbersEnd 154 = .ok (.iload_n 2, 1) := by decide +kernel
theorem d_MO_numbersEnd_155 : decode b_MO_numbersEnd 155 = .ok (.putfield 406, 3) := by decide +kernel
theorem d_MO_numbersEnd_158 : decode b_MO_numbersEnd 158 = .ok (.aload_n 0, 1) := by decide +kernel
theorem d_MO_numbersEnd_159 : decode b_MO_numbersEnd 159 = .ok (.iload_n 1, 1) := by decide +kernel
theorem d_MO_numbersEnd_160 : decode b_MO_numbersEnd 160 = .ok (.invokevirtual 297, 3) := by decide +kernel
theorem d_MO_numbersEnd_163 : decode b_MO_numbersEnd 163 = .ok (.bipush 125, 2) := by decide +kernel
theorem d_MO_numbersEnd_165 : decode b_MO_numbersEnd 165 = .ok (.if_icmp .ne 9, 3) := by decide +kernel
theorem d_MO_numbersEnd_168 : decode b_MO_numbersEnd 168 = .ok (.iload_n 1, 1) := by decide +kernel
theorem d_MO_numbersEnd_169 : decode b_MO_numbersEnd 169 = .ok (.iconst 1, 1) := by decide +kernel
theorem d_MO_numbersEnd_170 : decode b_MO_numbersEnd 170 = .ok (.iadd, 1) := by decide +kernel
theorem d_MO_numbersEnd_171 : decode b_MO_numbersEnd 171 = .ok (.goto 4, 3) := by decide +kernel
theorem d_MO_numbersEnd_174 : decode b_MO_numbersEnd 174 = .ok (.iconst (-1), 1) := by decide +kernel
theorem d_MO_numbersEnd_175 : decode b_MO_numbersEnd 175 = .ok (.ireturn, 1) := by decide +kernel
theorem d_MO_readRepeat_0 : decode b_MO_readRepeat 0 = .ok (.aload_n 0, 1) := by decide +kernel
theorem d_MO_readRepeat_1 : decode b_MO_readRepeat 1 = .ok (.getfield 279, 3) := by decide +kernel
theorem d_MO_readRepeat_4 : decode b_MO_readRepeat 4 = .ok (.istore_n 2, 1) := by decide +kernel
theorem d_MO_readRepeat_5 : decode b_MO_readRepeat 5 = .ok (.aload_n 0, 1) := by decide +kernel
theorem d_MO_readRepeat_6 : decode b_MO_readRepeat 6 = .ok (.getfield 100, 3) := by decide +kernel
theorem d_MO_readRepeat_9 : decode b_MO_readRepeat 9 = .ok (.aload_n 0, 1) := by decide +kernel
theorem d_MO_readRepeat_10 : decode b_MO_readRepeat 10 = .ok (.getfield 282, 3) := by decide +kernel
theorem d_MO_readRepeat_13 : decode b_MO_readRepeat 13 = .ok (.iaload, 1) := by decide +kernel
theorem d_MO_readRepeat_14 : decode b_MO_readRepeat 14 = .ok (.iconst 1, 1) := by decide +kernel
theorem d_MO_readRepeat_15 : decode b_MO_readRepeat 15 = .ok (.if_icmp .eq 13, 3) := by decide +kernel
theorem d_MO_readRepeat_18 : decode b_MO_readRepeat 18 = .ok (.aload_n 0, 1) := by decide +kernel
theorem d_MO_readRepeat_19 : decode b_MO_readRepeat 19 = .ok (.bipush 8, 2) := by decide +kernel
theorem d_MO_readRepeat_21 : decode b_MO_readRepeat 21 = .ok (.iload_n 2, 1) := by decide +kernel
theorem d_MO_readRepeat_22 : decode b_MO_readRepeat 22 = .ok (.invokevirtual 304, 3) := by decide +kernel
theorem d_MO_readRepeat_25 : decode b_MO_readRepeat 25 = .ok (.goto 46, 3) := by decide +kernel
theorem d_MO_readRepeat_28 : decode b_MO_readRepeat 28 = .ok (.aload_n 0, 1) := by decide +kernel
theorem d_MO_readRepeat_29 : decode b_MO_readRepeat 29 = .ok (.getfield 403, 3) := by decide +kernel
theorem d_MO_readRepeat_32 : decode b_MO_readRepeat 32 = .ok (.bipush 100, 2) := by decide +kernel
theorem d_MO_readRepeat_34 : decode b_MO_readRepeat 34 = .ok (.if_icmp .gt 30, 3) := by decide +kernel
theorem d_MO_readRepeat_37 : decode b_MO_readRepeat 37 = .ok (.aload_n 0, 1) := by decide +kernel
theorem d_MO_readRepeat_38 : decode b_MO_readRepeat 38 = .ok (.getfield 406, 3) := by decide +kernel
theorem d_MO_readRepeat_41 : decode b_MO_readRepeat 41 = .ok (.bipush 100, 2) := by decide +kernel
theorem d_MO_readRepeat_43 : decode b_MO_readRepeat 43 = .ok (.if_icmp .gt 21, 3) := by decide +kernel
theorem d_MO_readRepeat_46 : decode b_MO_readRepeat 46 = .ok (.aload_n 0, 1) := by decide +kernel
theorem d_MO_readRepeat_47 : decode b_MO_readRepeat 47 = .ok (.getfield 406, 3) := by decide +kernel
theorem d_MO_readRepeat_50 : decode b_MO_readRepeat 50 = .ok (.ifCond .lt 21, 3) := by decide +kernel
theorem d_MO_readRepeat_53 : decode b_MO_readRepeat 53 = .ok (.aload_n 0, 1) := by decide +kernel
theorem d_MO_readRepeat_54 : decode b_MO_readRepeat 54 = .ok (.getfield 403, 3) := by decide +kernel
theorem d_MO_readRepeat_57 : decode b_MO_readRepeat 57 = .ok (.aload_n 0, 1) := by decide +kernel
theorem d_MO_readRepeat_58 : decode b_MO_readRepeat 58 = .ok (.getfield 406, 3) := by decide +kernel
theorem d_MO_readRepeat_61 : decode b_MO_readRepeat 61 = .ok (.if_icmp .le 10, 3) := by decide +kernel
theorem d_MO_readRepeat_64 : decode b_MO_readRepeat 64 = .ok (.aload_n 0, 1) := by decide +kernel
theorem d_MO_readRepeat_65 : decode b_MO_readRepeat 65 = .ok (.bipush 9, 2) := by decide +kernel
theorem d_MO_readRepeat_67 : decode b_MO_readRepeat 67 = .ok (.iload_n 2, 1) := by decide +kernel
theorem d_MO_readRepeat_68 : decode b_MO_readRepeat 68 = .ok (.invokevirtual 304, 3) := by decide +kernel
theorem d_MO_readRepeat_71 : decode b_MO_readRepeat 71 = .ok (.aload_n 0, 1) := by decide +kernel
theorem d_MO_readRepeat_72 : decode b_MO_readRepeat 72 = .ok (.getfield 273, 3) := by decide +kernel
theorem d_MO_readRepeat_75 : decode b_MO_readRepeat 75 = .ok (.ifCond .le 4, 3) := by decide +kernel
theorem d_MO_readRepeat_78 : decode b_MO_readRepeat 78 = .ok (.return_, 1) := by decide +kernel
theorem d_MO_readRepeat_79 : decode b_MO_readRepeat 79 = .ok (.aload_n 0, 1) := by decide +kernel
theorem d_MO_readRepeat_80 : decode b_MO_readRepeat 80 = .ok (.dup, 1) := by decide +kernel
theorem d_MO_readRepeat_81 : decode b_MO_readRepeat 81 = .ok (.getfield 279, 3) := by decide +kernel
theorem d_MO_readRepeat_84 : decode b_MO_readRepeat 84 = .ok (.iload_n 1, 1) := by decide +kernel
theorem d_MO_readRepeat_85 : decode b_MO_readRepeat 85 = .ok (.iadd, 1) := by decide +kernel
theorem d_MO_readRepeat_86 : decode b_MO_readRepeat 86 = .ok (.putfield 279, 3) := by decide +kernel
theorem d_MO_readRepeat_89 : decode b_MO_readRepeat 89 = .ok (.aload_n 0, 1) := by decide +kernel
theorem d_MO_readRepeat_90 : decode b_MO_readRepeat 90 = .ok (.iconst 0, 1) := by decide +kernel
theorem d_MO_readRepeat_91 : decode b_MO_readRepeat 91 = .ok (.invokevirtual 297, 3) := by decide +kernel
theorem d_MO_readRepeat_94 : decode b_MO_readRepeat 94 = .ok (.bipush 63, 2) := by decide +kernel
theorem d_MO_readRepeat_96 : decode b_MO_readRepeat 96 = .ok (.if_icmp .ne 7, 3) := by decide +kernel
theorem d_MO_readRepeat_99 : decode b_MO_readRepeat 99 = .ok (.iconst 1, 1) := by decide +kernel
theorem d_MO_readRepeat_100 : decode b_MO_readRepeat 100 = .ok (.goto 4, 3) := by decide +kernel
theorem d_MO_readRepeat_103 : decode b_MO_readRepeat 103 = .ok (.iconst 0, 1) := by decide +kernel
theorem d_MO_readRepeat_104 : decode b_MO_readRepeat 104 = .ok (.istore_n 3, 1) := by decide +kernel
theorem d_MO_readRepeat_105 : decode b_MO_readRepeat 105 = .ok (.aload_n 0, 1) := by decide +kernel
theorem d_MO_readRepeat_106 : decode b_MO_readRepeat 106 = .ok (.dup, 1) := by decide +kernel
theorem d_MO_readRepeat_107 : decode b_MO_readRepeat 107 = .ok (.getfield 279, 3) := by decide +kernel
theorem d_MO_readRepeat_110 : decode b_MO_readRepeat 110 = .ok (.iload_n 3, 1) := by decide +kernel
theorem d_MO_readRepeat_111 : decode b_MO_readRepeat 111 = .ok (.ifCond .eq 7, 3) := by decide +kernel
theorem d_MO_readRepeat_114 : decode b_MO_readRepeat 114 = .ok (.iconst 1, 1) := by decide +kernel
theorem d_MO_readRepeat_115 : decode b_MO_readRepeat 115 = .ok (.goto 4, 3) := by decide +kernel
theorem d_MO_readRepeat_118 : decode b_MO_readRepeat 118 = .ok (.iconst 0, 1) := by decide +kernel
theorem d_MO_readRepeat_119 : decode b_MO_readRepeat 119 = .ok (.iadd, 1) := by decide +kernel
theorem d_MO_readRepeat_120 : decode b_MO_readRepeat 120 = .ok (.putfield 279, 3) := by decide +kernel
theorem d_MO_readRepeat_123 : decode b_MO_readRepeat 123 = .ok (.aload_n 0, 1) := by decide +kernel
theorem d_MO_readRepeat_124 : decode b_MO_readRepeat 124 = .ok (.aload_n 0, 1) := by decide +kernel
theorem d_MO_readRepeat_125 : decode b_MO_readRepeat 125 = .ok (.getfield 403, 3) := by decide +kernel
theorem d_MO_readRepeat_128 : decode b_MO_readRepeat 128 = .ok (.aload_n 0, 1) := by decide +kernel
theorem d_MO_readRepeat_129 : decode b_MO_readRepeat 129 = .ok (.getfield 406, 3) := by decide +kernel
theorem d_MO_readRepeat_132 : decode b_MO_readRepeat 132 = .ok (.iload_n 3, 1) := by decide +kernel
theorem d_MO_readRepeat_133 : decode b_MO_readRepeat 133 = .ok (.aload_n 0, 1) := by decide +kernel
theorem d_MO_readRepeat_134 : decode b_MO_readRepeat 134 = .ok (.bipush 8, 2) := by decide +kernel
theorem d_MO_readRepeat_136 : decode b_MO_readRepeat 136 = .ok (.invokevirtual 355, 3) := by decide +kernel
theorem d_MO_readRepeat_139 : decode b_MO_readRepeat 139 = .ok (.if_icmp .eq 7, 3) := by decide +kernel
theorem d_MO_readRepeat_142 : decode b_MO_readRepeat 142 = .ok (.iconst 1, 1) := by decide +kernel
theorem d_MO_readRepeat_143 : decode b_MO_readRepeat 143 = .ok (.goto 4, 3) := by decide +kernel
theorem d_MO_readRepeat_146 : decode b_MO_readRepeat 146 = .ok (.iconst 0, 1) := by decide +kernel
theorem d_MO_readRepeat_147 : decode b_MO_readRepeat 147 = .ok (.invokevirtual 409, 3) := by decide +kernel
theorem d_MO_readRepeat_150 : decode b_MO_readRepeat 150 = .ok (.return_, 1) := by decide +kernel
