theorem d_MO_closeGroup_0 : decode b_MO_closeGroup 0 = .ok (.aload_n 0, 1) := by decide +kernel
theorem d_MO_closeGroup_1 : decode b_MO_closeGroup 1 = .ok (.getfield 282, 3) := by decide +kernel
theorem d_MO_closeGroup_4 : decode b_MO_closeGroup 4 = .ok (.ifCond .ne 13, 3) := by decide +kernel
theorem d_MO_closeGroup_7 : decode b_MO_closeGroup 7 = .ok (.aload_n 0, 1) := by decide +kernel
theorem d_MO_closeGroup_8 : decode b_MO_closeGroup 8 = .ok (.iconst 3, 1) := by decide +kernel
theorem d_MO_closeGroup_9 : decode b_MO_closeGroup 9 = .ok (.aload_n 0, 1) := by decide +kernel
theorem d_MO_closeGroup_10 : decode b_MO_closeGroup 10 = .ok (.getfield 279, 3) := by decide +kernel
theorem d_MO_closeGroup_13 : decode b_MO_closeGroup 13 = .ok (.invokevirtual 304, 3) := by decide +kernel
theorem d_MO_closeGroup_16 : decode b_MO_closeGroup 16 = .ok (.return_, 1) := by decide +kernel
theorem d_MO_closeGroup_17 : decode b_MO_closeGroup 17 = .ok (.aload_n 0, 1) := by decide +kernel
theorem d_MO_closeGroup_18 : decode b_MO_closeGroup 18 = .ok (.invokevirtual 398, 3) := by decide +kernel
theorem d_MO_closeGroup_21 : decode b_MO_closeGroup 21 = .ok (.istore_n 1, 1) := by decide +kernel
theorem d_MO_closeGroup_22 : decode b_MO_closeGroup 22 = .ok (.aload_n 0, 1) := by decide +kernel
theorem d_MO_closeGroup_23 : decode b_MO_closeGroup 23 = .ok (.getfield 85, 3) := by decide +kernel
theorem d_MO_closeGroup_26 : decode b_MO_closeGroup 26 = .ok (.aload_n 0, 1) := by decide +kernel
theorem d_MO_closeGroup_27 : decode b_MO_closeGroup 27 = .ok (.getfield 282, 3) := by decide +kernel
theorem d_MO_closeGroup_30 : decode b_MO_closeGroup 30 = .ok (.iaload, 1) := by decide +kernel
theorem d_MO_closeGroup_31 : decode b_MO_closeGroup 31 = .ok (.istore_n 2, 1) := by decide +kernel
theorem d_MO_closeGroup_32 : decode b_MO_closeGroup 32 = .ok (.aload_n 0, 1) := by decide +kernel
theorem d_MO_closeGroup_33 : decode b_MO_closeGroup 33 = .ok (.aload_n 0, 1) := by decide +kernel
theorem d_MO_closeGroup_34 : decode b_MO_closeGroup 34 = .ok (.getfield 82, 3) := by decide +kernel
theorem d_MO_closeGroup_37 : decode b_MO_closeGroup 37 = .ok (.aload_n 0, 1) := by decide +kernel
theorem d_MO_closeGroup_38 : decode b_MO_closeGroup 38 = .ok (.getfield 282, 3) := by decide +kernel
theorem d_MO_closeGroup_41 : decode b_MO_closeGroup 41 = .ok (.iaload, 1) := by decide +kernel
theorem d_MO_closeGroup_42 : decode b_MO_closeGroup 42 = .ok (.putfield 276, 3) := by decide +kernel
theorem d_MO_closeGroup_45 : decode b_MO_closeGroup 45 = .ok (.aload_n 0, 1) := by decide +kernel
theorem d_MO_closeGroup_46 : decode b_MO_closeGroup 46 = .ok (.dup, 1) := by decide +kernel
theorem d_MO_closeGroup_47 : decode b_MO_closeGroup 47 = .ok (.getfield 282, 3) := by decide +kernel
theorem d_MO_closeGroup_50 : decode b_MO_closeGroup 50 = .ok (.iconst 1, 1) := by decide +kernel
theorem d_MO_closeGroup_51 : decode b_MO_closeGroup 51 = .ok (.isub, 1) := by decide +kernel
theorem d_MO_closeGroup_52 : decode b_MO_closeGroup 52 = .ok (.putfield 282, 3) := by decide +kernel
theorem d_MO_closeGroup_55 : decode b_MO_closeGroup 55 = .ok (.aload_n 0, 1) := by decide +kernel
theorem d_MO_closeGroup_56 : decode b_MO_closeGroup 56 = .ok (.bipush 6, 2) := by decide +kernel
theorem d_MO_closeGroup_58 : decode b_MO_closeGroup 58 = .ok (.iload_n 2, 1) := by decide +kernel
theorem d_MO_closeGroup_59 : decode b_MO_closeGroup 59 = .ok (.aload_n 0, 1) := by decide +kernel
theorem d_MO_closeGroup_60 : decode b_MO_closeGroup 60 = .ok (.getfield 68, 3) := by decide +kernel
theorem d_MO_closeGroup_63 : decode b_MO_closeGroup 63 = .ok (.iload_n 1, 1) := by decide +kernel
theorem d_MO_closeGroup_64 : decode b_MO_closeGroup 64 = .ok (.laload, 1) := by decide +kernel
theorem d_MO_closeGroup_65 : decode b_MO_closeGroup 65 = .ok (.iload_n 2, 1) := by decide +kernel
theorem d_MO_closeGroup_66 : decode b_MO_closeGroup 66 = .ok (.ifCond .le 9, 3) := by decide +kernel
theorem d_MO_closeGroup_69 : decode b_MO_closeGroup 69 = .ok (.ldc2_w 401, 3) := by decide +kernel
theorem d_MO_closeGroup_72 : decode b_MO_closeGroup 72 = .ok (.goto 4, 3) := by decide +kernel
theorem d_MO_closeGroup_75 : decode b_MO_closeGroup 75 = .ok (.lconst 0, 1) := by decide +kernel
theorem d_MO_closeGroup_76 : decode b_MO_closeGroup 76 = .ok (.ladd, 1) := by decide +kernel
theorem d_MO_closeGroup_77 : decode b_MO_closeGroup 77 = .ok (.invokestatic 288, 3) := by decide +kernel
theorem d_MO_closeGroup_80 : decode b_MO_closeGroup 80 = .ok (.invokevirtual 269, 3) := by decide +kernel
theorem d_MO_closeGroup_83 : decode b_MO_closeGroup 83 = .ok (.istore_n 3, 1) := by decide +kernel
theorem d_MO_closeGroup_84 : decode b_MO_closeGroup 84 = .ok (.aload_n 0, 1) := by decide +kernel
theorem d_MO_closeGroup_85 : decode b_MO_closeGroup 85 = .ok (.getfield 56, 3) := by decide +kernel
theorem d_MO_closeGroup_88 : decode b_MO_closeGroup 88 = .ok (.iload_n 3, 1) := by decide +kernel
theorem d_MO_closeGroup_89 : decode b_MO_closeGroup 89 = .ok (.iload_n 1, 1) := by decide +kernel
theorem d_MO_closeGroup_90 : decode b_MO_closeGroup 90 = .ok (.iastore, 1) := by decide +kernel
theorem d_MO_closeGroup_91 : decode b_MO_closeGroup 91 = .ok (.aload_n 0, 1) := by decide +kernel
theorem d_MO_closeGroup_92 : decode b_MO_closeGroup 92 = .ok (.iload_n 3, 1) := by decide +kernel
theorem d_MO_closeGroup_93 : decode b_MO_closeGroup 93 = .ok (.iconst 1, 1) := by decide +kernel
theorem d_MO_closeGroup_94 : decode b_MO_closeGroup 94 = .ok (.invokevirtual 375, 3) := by decide +kernel
theorem d_MO_closeGroup_97 : decode b_MO_closeGroup 97 = .ok (.aload_n 0, 1) := by decide +kernel
theorem d_MO_closeGroup_98 : decode b_MO_closeGroup 98 = .ok (.dup, 1) := by decide +kernel
theorem d_MO_closeGroup_99 : decode b_MO_closeGroup 99 = .ok (.getfield 279, 3) := by decide +kernel
theorem d_MO_closeGroup_102 : decode b_MO_closeGroup 102 = .ok (.iconst 1, 1) := by decide +kernel
theorem d_MO_closeGroup_103 : decode b_MO_closeGroup 103 = .ok (.iadd, 1) := by decide +kernel
theorem d_MO_closeGroup_104 : decode b_MO_closeGroup 104 = .ok (.putfield 279, 3) := by decide +kernel
theorem d_MO_closeGroup_107 : decode b_MO_closeGroup 107 = .ok (.return_, 1) := by decide +kernel
theorem d_MO_numbersEnd_0 : decode b_MO_numbersEnd 0 = .ok (.iconst 1, 1) := by decide +kernel
theorem d_MO_numbersEnd_1 : decode b_MO_numbersEnd 1 = .ok (.istore_n 1, 1) := by decide +kernel
theorem d_MO_numbersEnd_2 : decode b_MO_numbersEnd 2 = .ok (.iconst 0, 1) := by decide +kernel
theorem d_MO_numbersEnd_3 : decode b_MO_numbersEnd 3 = .ok (.istore_n 2, 1) := by decide +kernel
theorem d_MO_numbersEnd_4 : decode b_MO_numbersEnd 4 = .ok (.aload_n 0, 1) := by decide +kernel
theorem d_MO_numbersEnd_5 : decode b_MO_numbersEnd 5 = .ok (.iload_n 1, 1) := by decide +kernel
theorem d_MO_numbersEnd_6 : decode b_MO_numbersEnd 6 = .ok (.invokevirtual 297, 3) := by decide +kernel
theorem d_MO_numbersEnd_9 : decode b_MO_numbersEnd 9 = .ok (.bipush 48, 2) := by decide +kernel
theorem d_MO_numbersEnd_11 : decode b_MO_numbersEnd 11 = .ok (.if_icmp .lt 38, 3) := by decide +kernel
theorem d_MO_numbersEnd_14 : decode b_MO_numbersEnd 14 = .ok (.aload_n 0, 1) := by decide +kernel
theorem d_MO_numbersEnd_15 : decode b_MO_numbersEnd 15 = .ok (.iload_n 1, 1) := by decide +kernel
theorem d_MO_numbersEnd_16 : decode b_MO_numbersEnd 16 = .ok (.invokevirtual 297, 3) := by decide +kernel
theorem d_MO_numbersEnd_19 : decode b_MO_numbersEnd 19 = .ok (.bipush 57, 2) := by decide +kernel
theorem d_MO_numbersEnd_21 : decode b_MO_numbersEnd 21 = .ok (.if_icmp .gt 28, 3) := by decide +kernel
theorem d_MO_numbersEnd_24 : decode b_MO_numbersEnd 24 = .ok (.iload_n 1, 1) := by decide +kernel
theorem d_MO_numbersEnd_25 : decode b_MO_numbersEnd 25 = .ok (.iconst 5, 1) := by decide +kernel
theorem d_MO_numbersEnd_26 : decode b_MO_numbersEnd 26 = .ok (.if_icmp .ge 23, 3) := by decide +kernel
theorem d_MO_numbersEnd_29 : decode b_MO_numbersEnd 29 = .ok (.bipush 10, 2) := by decide +kernel
theorem d_MO_numbersEnd_31 : decode b_MO_numbersEnd 31 = .ok (.iload_n 2, 1) := by decide +kernel
theorem d_MO_numbersEnd_32 : decode b_MO_numbersEnd 32 = .ok (.imul, 1) := by decide +kernel
theorem d_MO_numbersEnd_33 : decode b_MO_numbersEnd 33 = .ok (.aload_n 0, 1) := by decide +kernel
theorem d_MO_numbersEnd_34 : decode b_MO_numbersEnd 34 = .ok (.iload_n 1, 1) := by decide +kernel
theorem d_MO_numbersEnd_35 : decode b_MO_numbersEnd 35 = .ok (.invokevirtual 297, 3) := by decide +kernel
theorem d_MO_numbersEnd_38 : decode b_MO_numbersEnd 38 = .ok (.iadd, 1) := by decide +kernel
theorem d_MO_numbersEnd_39 : decode b_MO_numbersEnd 39 = .ok (.bipush 48, 2) := by decide +kernel
theorem d_MO_numbersEnd_41 : decode b_MO_numbersEnd 41 = .ok (.isub, 1) := by decide +kernel
theorem d_MO_numbersEnd_42 : decode b_MO_numbersEnd 42 = .ok (.istore_n 2, 1) := by decide +kernel
theorem d_MO_numbersEnd_43 : decode b_MO_numbersEnd 43 = .ok (.iinc 1 1, 3) := by decide +kernel
theorem d_MO_numbersEnd_46 : decode b_MO_numbersEnd 46 = .ok (.goto (-42), 3) := by decide +kernel
theorem d_MO_numbersEnd_49 : decode b_MO_numbersEnd 49 = .ok (.iload_n 1, 1) := by decide +kernel
theorem d_MO_numbersEnd_50 : decode b_MO_numbersEnd 50 = .ok (.iconst 2, 1) := by decide +kernel
theorem d_MO_numbersEnd_51 : decode b_MO_numbersEnd 51 = .ok (.if_icmp .lt 8, 3) := by decide +kernel
theorem d_MO_numbersEnd_54 : decode b_MO_numbersEnd 54 = .ok (.iload_n 1, 1) := by decide +kernel
theorem d_MO_numbersEnd_55 : decode b_MO_numbersEnd 55 = .ok (.iconst 4, 1) := by decide +kernel
theorem d_MO_numbersEnd_56 : decode b_MO_numbersEnd 56 = .ok (.if_icmp .le 5, 3) := by decide +kernel
theorem d_MO_numbersEnd_59 : decode b_MO_numbersEnd 59 = .ok (.iconst (-1), 1) := by decide +kernel
theorem d_MO_numbersEnd_60 : decode b_MO_numbersEnd 60 = .ok (.ireturn, 1) := by decide +kernel
theorem d_MO_numbersEnd_61 : decode b_MO_numbersEnd 61 = .ok (.aload_n 0, 1) := by decide +kernel
theorem d_MO_numbersEnd_62 : decode b_MO_numbersEnd 62 = .ok (.iload_n 2, 1) := by decide +kernel
theorem d_MO_numbersEnd_63 : decode b_MO_numbersEnd 63 = .ok (.putfield 403, 3) := by decide +kernel
theorem d_MO_numbersEnd_66 : decode b_MO_numbersEnd 66 = .ok (.aload_n 0, 1) := by decide +kernel
theorem d_MO_numbersEnd_67 : decode b_MO_numbersEnd 67 = .ok (.iload_n 2, 1) := by decide +kernel
theorem d_MO_numbersEnd_68 : decode b_MO_numbersEnd 68 = .ok (.putfield 406, 3) := by decide +kernel
theorem d_MO_numbersEnd_71 : decode b_MO_numbersEnd 71 = .ok (.aload_n 0, 1) := by decide +kernel
theorem d_MO_numbersEnd_72 : decode b_MO_numbersEnd 72 = .ok (.iload_n 1, 1) := by decide +kernel
theorem d_MO_numbersEnd_73 : decode b_MO_numbersEnd 73 = .ok (.invokevirtual 297, 3) := by decide +kernel
theorem d_MO_numbersEnd_76 : decode b_MO_numbersEnd 76 = .ok (.bipush 44, 2) := by decide +kernel
theorem d_MO_numbersEnd_78 : decode b_MO_numbersEnd 78 = .ok (.if_icmp .ne 80, 3) := by decide +kernel
theorem d_MO_numbersEnd_81 : decode b_MO_numbersEnd 81 = .ok (.iinc 1 1, 3) := by decide +kernel
theorem d_MO_numbersEnd_84 : decode b_MO_numbersEnd 84 = .ok (.iload_n 1, 1) := by decide +kernel
theorem d_MO_numbersEnd_85 : decode b_MO_numbersEnd 85 = .ok (.istore_n 3, 1) := by decide +kernel
theorem d_MO_numbersEnd_86 : decode b_MO_numbersEnd 86 = .ok (.iconst 0, 1) := by decide +kernel
theorem d_MO_numbersEnd_87 : decode b_MO_numbersEnd 87 = .ok (.istore_n 2, 1) := by decide +kernel
theorem d_MO_numbersEnd_88 : decode b_MO_numbersEnd 88 = .ok (.aload_n 0, 1) := by decide +kernel
theorem d_MO_numbersEnd_89 : decode b_MO_numbersEnd 89 = .ok (.iload_n 1, 1) := by decide +kernel
theorem d_MO_numbersEnd_90 : decode b_MO_numbersEnd 90 = .ok (.invokevirtual 297, 3) := by decide +kernel
theorem d_MO_numbersEnd_93 : decode b_MO_numbersEnd 93 = .ok (.bipush 48, 2) := by decide +kernel
theorem d_MO_numbersEnd_95 : decode b_MO_numbersEnd 95 = .ok (.if_icmp .lt 40, 3) := by decide +kernel
theorem d_MO_numbersEnd_98 : decode b_MO_numbersEnd 98 = .ok (.aload_n 0, 1) := by decide +kernel
theorem d_MO_numbersEnd_99 : decode b_MO_numbersEnd 99 = .ok (.iload_n 1, 1) := by decide +kernel
theorem d_MO_numbersEnd_100 : decode b_MO_numbersEnd 100 = .ok (.invokevirtual 297, 3) := by decide +kernel
theorem d_MO_numbersEnd_103 : decode b_MO_numbersEnd 103 = .ok (.bipush 57, 2) := by decide +kernel
theorem d_MO_numbersEnd_105 : decode b_MO_numbersEnd 105 = .ok (.if_icmp .gt 30, 3) := by decide +kernel
theorem d_MO_numbersEnd_108 : decode b_MO_numbersEnd 108 = .ok (.iload_n 1, 1) := by decide +kernel
theorem d_MO_numbersEnd_109 : decode b_MO_numbersEnd 109 = .ok (.iload_n 3, 1) := by decide +kernel
theorem d_MO_numbersEnd_110 : decode b_MO_numbersEnd 110 = .ok (.iconst 4, 1) := by decide +kernel
theorem d_MO_numbersEnd_111 : decode b_MO_numbersEnd 111 = .ok (.iadd, 1) := by decide +kernel
theorem d_MO_numbersEnd_112 : decode b_MO_numbersEnd 112 = .ok (.if_icmp .ge 23, 3) := by decide +kernel
theorem d_MO_numbersEnd_115 : decode b_MO_numbersEnd 115 = .ok (.bipush 10, 2) := by decide +kernel
theorem d_MO_numbersEnd_117 : decode b_MO_numbersEnd 117 = .ok (.iload_n 2, 1) := by decide +kernel
theorem d_MO_numbersEnd_118 : decode b_MO_numbersEnd 118 = .ok (.imul, 1) := by decide +kernel
theorem d_MO_numbersEnd_119 : decode b_MO_numbersEnd 119 = .ok (.aload_n 0, 1) := by decide +kernel
theorem d_MO_numbersEnd_120 : decode b_MO_numbersEnd 120 = .ok (.iload_n 1, 1) := by decide +kernel
theorem d_MO_numbersEnd_121 : decode b_MO_numbersEnd 121 = .ok (.invokevirtual 297, 3) := by decide +kernel
theorem d_MO_numbersEnd_124 : decode b_MO_numbersEnd 124 = .ok (.iadd, 1) := by decide +kernel
theorem d_MO_numbersEnd_125 : decode b_MO_numbersEnd 125 = .ok (.bipush 48, 2) := by decide +kernel
theorem d_MO_numbersEnd_127 : decode b_MO_numbersEnd 127 = .ok (.isub, 1) := by decide +kernel
theorem d_MO_numbersEnd_128 : decode b_MO_numbersEnd 128 = .ok (.istore_n 2, 1) := by decide +kernel
theorem d_MO_numbersEnd_129 : decode b_MO_numbersEnd 129 = .ok (.iinc 1 1, 3) := by decide +kernel
theorem d_MO_numbersEnd_132 : decode b_MO_numbersEnd 132 = .ok (.goto (-44), 3) := by decide +kernel
theorem d_MO_numbersEnd_135 : decode b_MO_numbersEnd 135 = .ok (.iload_n 1, 1) := by decide +kernel
theorem d_MO_numbersEnd_136 : decode b_MO_numbersEnd 136 = .ok (.iload_n 3, 1) := by decide +kernel
theorem d_MO_numbersEnd_137 : decode b_MO_numbersEnd 137 = .ok (.iconst 3, 1) := by decide +kernel
theorem d_MO_numbersEnd_138 : decode b_MO_numbersEnd 138 = .ok (.iadd, 1) := by decide +kernel
theorem d_MO_numbersEnd_139 : decode b_MO_numbersEnd 139 = .ok (.if_icmp .le 5, 3) := by decide +kernel
theorem d_MO_numbersEnd_142 : decode b_MO_numbersEnd 142 = .ok (.iconst (-1), 1) := by decide +kernel
theorem d_MO_numbersEnd_143 : decode b_MO_numbersEnd 143 = .ok (.ireturn, 1) := by decide +kernel
theorem d_MO_numbersEnd_144 : decode b_MO_numbersEnd 144 = .ok (.aload_n 0, 1) := by decide +kernel
theorem d_MO_numbersEnd_145 : decode b_MO_numbersEnd 145 = .ok (.iload_n 1, 1) := by decide +kernel
theorem d_MO_numbersEnd_146 : decode b_MO_numbersEnd 146 = .ok (.iload_n 3, 1) := by decide +kernel
theorem d_MO_numbersEnd_147 : decode b_MO_numbersEnd 147 = .ok (.if_icmp .ne 7, 3) := by decide +kernel
theorem d_MO_numbersEnd_150 : decode b_MO_numbersEnd 150 = .ok (.iconst (-1), 1) := by decide +kernel
theorem d_MO_numbersEnd_151 : decode b_MO_numbersEnd 151 = .ok (.goto 4, 3) := by decide +kernel
theorem d_MO_numbersEnd_154 : decode b_MO_numbersEnd 154 = .ok (.iload_n 2, 1) := by decide +kernel
theorem d_MO_numbersEnd_155 : decode b_MO_numbersEnd 155 = .ok (.putfield 406, 3) := by decide +kernel
theorem d_MO_numbersEnd_158 : decode b_MO_numbersEnd 158 = .ok (.aload_n 0, 1) := by decide +kernel
theorem d_MO_numbersEnd_159 : decode b_MO_numbersEnd 159 = .ok (.iload_n 1, 1) := by decide +kernel
theorem d_MO_numbersEnd_160 : decode b_MO_numbersEnd 160 = .ok (.invokevirtual 297, 3) := by decide +kernel
theorem d_MO_numbersEnd_163 : decode b_MO_numbersEnd 163 = .ok (.bipush 125, 2) := by decide +kernel
theorem d_MO_numbersEnd_165 : decode b_MO_numbersEnd 165 = .ok (.if_icmp .ne 9, 3) := by decide +kernel
theorem d_MO_numbersEnd_168 : decode b_MO_numbersEnd 168 = .ok (.iload_n 1, 1) := by decide +kernel
theorem d_MO_numbersEnd_169 : decode b_MO_numbersEnd 169 = .ok (.iconst 1, 1) := by decide +kernel
theorem d_MO_numbersEnd_170 : decode b_MO_numbersEnd 170 = .ok (.iadd, 1) := by decide +kernel
theorem d_MO_numbersEnd_171 : decode b_MO_numbersEnd 171 = .ok (.goto 4, 3) := by decide +kernel
theorem d_MO_numbersEnd_174 : decode b_MO_numbersEnd 174 = .ok (.iconst (-1), 1) := by decide +kernel
theorem d_MO_numbersEnd_175 : decode b_MO_numbersEnd 175 = .ok (.ireturn, 1) := by decide +kernel
theorem d_MO_openNumbered_0 : decode b_MO_openNumbered 0 = .ok (.aload_n 0, 1) := by decide +kernel
theorem d_MO_openNumbered_1 : decode b_MO_openNumbered 1 = .ok (.getfield 282, 3) := by decide +kernel
theorem d_MO_openNumbered_4 : decode b_MO_openNumbered 4 = .ok (.bipush 30, 2) := by decide +kernel
theorem d_MO_openNumbered_6 : decode b_MO_openNumbered 6 = .ok (.if_icmp .ne 13, 3) := by decide +kernel
theorem d_MO_openNumbered_9 : decode b_MO_openNumbered 9 = .ok (.aload_n 0, 1) := by decide +kernel
theorem d_MO_openNumbered_10 : decode b_MO_openNumbered 10 = .ok (.bipush 12, 2) := by decide +kernel
theorem d_MO_openNumbered_12 : decode b_MO_openNumbered 12 = .ok (.iload_n 1, 1) := by decide +kernel
theorem d_MO_openNumbered_13 : decode b_MO_openNumbered 13 = .ok (.invokevirtual 304, 3) := by decide +kernel
theorem d_MO_openNumbered_16 : decode b_MO_openNumbered 16 = .ok (.goto 19, 3) := by decide +kernel
theorem d_MO_openNumbered_19 : decode b_MO_openNumbered 19 = .ok (.aload_n 0, 1) := by decide +kernel
theorem d_MO_openNumbered_20 : decode b_MO_openNumbered 20 = .ok (.getfield 395, 3) := by decide +kernel
theorem d_MO_openNumbered_23 : decode b_MO_openNumbered 23 = .ok (.bipush 9, 2) := by decide +kernel
theorem d_MO_openNumbered_25 : decode b_MO_openNumbered 25 = .ok (.if_icmp .ne 10, 3) := by decide +kernel
theorem d_MO_openNumbered_28 : decode b_MO_openNumbered 28 = .ok (.aload_n 0, 1) := by decide +kernel
theorem d_MO_openNumbered_29 : decode b_MO_openNumbered 29 = .ok (.bipush 13, 2) := by decide +kernel
theorem d_MO_openNumbered_31 : decode b_MO_openNumbered 31 = .ok (.iload_n 1, 1) := by decide +kernel
theorem d_MO_openNumbered_32 : decode b_MO_openNumbered 32 = .ok (.invokevirtual 304, 3) := by decide +kernel
theorem d_MO_openNumbered_35 : decode b_MO_openNumbered 35 = .ok (.aload_n 0, 1) := by decide +kernel
theorem d_MO_openNumbered_36 : decode b_MO_openNumbered 36 = .ok (.getfield 273, 3) := by decide +kernel
theorem d_MO_openNumbered_39 : decode b_MO_openNumbered 39 = .ok (.ifCond .le 4, 3) := by decide +kernel
theorem d_MO_openNumbered_42 : decode b_MO_openNumbered 42 = .ok (.return_, 1) := by decide +kernel
theorem d_MO_openNumbered_43 : decode b_MO_openNumbered 43 = .ok (.aload_n 0, 1) := by decide +kernel
theorem d_MO_openNumbered_44 : decode b_MO_openNumbered 44 = .ok (.dup, 1) := by decide +kernel
theorem d_MO_openNumbered_45 : decode b_MO_openNumbered 45 = .ok (.getfield 395, 3) := by decide +kernel
theorem d_MO_openNumbered_48 : decode b_MO_openNumbered 48 = .ok (.iconst 1, 1) := by decide +kernel
theorem d_MO_openNumbered_49 : decode b_MO_openNumbered 49 = .ok (.iadd, 1) := by decide +kernel
theorem d_MO_openNumbered_50 : decode b_MO_openNumbered 50 = .ok (.putfield 395, 3) := by decide +kernel
theorem d_MO_openNumbered_53 : decode b_MO_openNumbered 53 = .ok (.aload_n 0, 1) := by decide +kernel
theorem d_MO_openNumbered_54 : decode b_MO_openNumbered 54 = .ok (.getfield 106, 3) := by decide +kernel
theorem d_MO_openNumbered_57 : decode b_MO_openNumbered 57 = .ok (.aload_n 0, 1) := by decide +kernel
theorem d_MO_openNumbered_58 : decode b_MO_openNumbered 58 = .ok (.getfield 395, 3) := by decide +kernel
theorem d_MO_openNumbered_61 : decode b_MO_openNumbered 61 = .ok (.iload_n 3, 1) := by decide +kernel
theorem d_MO_openNumbered_62 : decode b_MO_openNumbered 62 = .ok (.iastore, 1) := by decide +kernel
theorem d_MO_openNumbered_63 : decode b_MO_openNumbered 63 = .ok (.iconst 0, 1) := by decide +kernel
theorem d_MO_openNumbered_64 : decode b_MO_openNumbered 64 = .ok (.istore 4, 2) := by decide +kernel
theorem d_MO_openNumbered_66 : decode b_MO_openNumbered 66 = .ok (.iload 4, 2) := by decide +kernel
theorem d_MO_openNumbered_68 : decode b_MO_openNumbered 68 = .ok (.iload_n 3, 1) := by decide +kernel
theorem d_MO_openNumbered_69 : decode b_MO_openNumbered 69 = .ok (.if_icmp .ge 33, 3) := by decide +kernel
theorem d_MO_openNumbered_72 : decode b_MO_openNumbered 72 = .ok (.aload_n 0, 1) := by decide +kernel
theorem d_MO_openNumbered_73 : decode b_MO_openNumbered 73 = .ok (.getfield 103, 3) := by decide +kernel
theorem d_MO_openNumbered_76 : decode b_MO_openNumbered 76 = .ok (.bipush 12, 2) := by decide +kernel
theorem d_MO_openNumbered_78 : decode b_MO_openNumbered 78 = .ok (.aload_n 0, 1) := by decide +kernel
theorem d_MO_openNumbered_79 : decode b_MO_openNumbered 79 = .ok (.getfield 395, 3) := by decide +kernel
theorem d_MO_openNumbered_82 : decode b_MO_openNumbered 82 = .ok (.imul, 1) := by decide +kernel
theorem d_MO_openNumbered_83 : decode b_MO_openNumbered 83 = .ok (.iload 4, 2) := by decide +kernel
theorem d_MO_openNumbered_85 : decode b_MO_openNumbered 85 = .ok (.iadd, 1) := by decide +kernel
theorem d_MO_openNumbered_86 : decode b_MO_openNumbered 86 = .ok (.aload_n 0, 1) := by decide +kernel
theorem d_MO_openNumbered_87 : decode b_MO_openNumbered 87 = .ok (.getfield 19, 3) := by decide +kernel
theorem d_MO_openNumbered_90 : decode b_MO_openNumbered 90 = .ok (.iload_n 2, 1) := by decide +kernel
theorem d_MO_openNumbered_91 : decode b_MO_openNumbered 91 = .ok (.iload 4, 2) := by decide +kernel
theorem d_MO_openNumbered_93 : decode b_MO_openNumbered 93 = .ok (.iadd, 1) := by decide +kernel
theorem d_MO_openNumbered_94 : decode b_MO_openNumbered 94 = .ok (.iaload, 1) := by decide +kernel
theorem d_MO_openNumbered_95 : decode b_MO_openNumbered 95 = .ok (.iastore, 1) := by decide +kernel
theorem d_MO_openNumbered_96 : decode b_MO_openNumbered 96 = .ok (.iinc 4 1, 3) := by decide +kernel
theorem d_MO_openNumbered_99 : decode b_MO_openNumbered 99 = .ok (.goto (-33), 3) := by decide +kernel
theorem d_MO_openNumbered_102 : decode b_MO_openNumbered 102 = .ok (.aload_n 0, 1) := by decide +kernel
theorem d_MO_openNumbered_103 : decode b_MO_openNumbered 103 = .ok (.dup, 1) := by decide +kernel
theorem d_MO_openNumbered_104 : decode b_MO_openNumbered 104 = .ok (.getfield 282, 3) := by decide +kernel
theorem d_MO_openNumbered_107 : decode b_MO_openNumbered 107 = .ok (.iconst 1, 1) := by decide +kernel
theorem d_MO_openNumbered_108 : decode b_MO_openNumbered 108 = .ok (.iadd, 1) := by decide +kernel
theorem d_MO_openNumbered_109 : decode b_MO_openNumbered 109 = .ok (.putfield 282, 3) := by decide +kernel
theorem d_MO_openNumbered_112 : decode b_MO_openNumbered 112 = .ok (.aload_n 0, 1) := by decide +kernel
theorem d_MO_openNumbered_113 : decode b_MO_openNumbered 113 = .ok (.iload_n 1, 1) := by decide +kernel
theorem d_MO_openNumbered_114 : decode b_MO_openNumbered 114 = .ok (.aload_n 0, 1) := by decide +kernel
theorem d_MO_openNumbered_115 : decode b_MO_openNumbered 115 = .ok (.getfield 276, 3) := by decide +kernel
theorem d_MO_openNumbered_118 : decode b_MO_openNumbered 118 = .ok (.aload_n 0, 1) := by decide +kernel
theorem d_MO_openNumbered_119 : decode b_MO_openNumbered 119 = .ok (.getfield 395, 3) := by decide +kernel
theorem d_MO_openNumbered_122 : decode b_MO_openNumbered 122 = .ok (.invokevirtual 392, 3) := by decide +kernel
theorem d_MO_openNumbered_125 : decode b_MO_openNumbered 125 = .ok (.return_, 1) := by decide +kernel
theorem d_MO_read_0 : decode b_MO_read 0 = .ok (.aload_n 0, 1) := by decide +kernel
theorem d_MO_read_1 : decode b_MO_read 1 = .ok (.iconst 0, 1) := by decide +kernel
theorem d_MO_read_2 : decode b_MO_read 2 = .ok (.putfield 279, 3) := by decide +kernel
theorem d_MO_read_5 : decode b_MO_read 5 = .ok (.aload_n 0, 1) := by decide +kernel
theorem d_MO_read_6 : decode b_MO_read 6 = .ok (.iload_n 1, 1) := by decide +kernel
theorem d_MO_read_7 : decode b_MO_read 7 = .ok (.putfield 276, 3) := by decide +kernel
theorem d_MO_read_10 : decode b_MO_read 10 = .ok (.aload_n 0, 1) := by decide +kernel
theorem d_MO_read_11 : decode b_MO_read 11 = .ok (.iconst 0, 1) := by decide +kernel
theorem d_MO_read_12 : decode b_MO_read 12 = .ok (.putfield 273, 3) := by decide +kernel
theorem d_MO_read_15 : decode b_MO_read 15 = .ok (.aload_n 0, 1) := by decide +kernel
theorem d_MO_read_16 : decode b_MO_read 16 = .ok (.iconst (-1), 1) := by decide +kernel
theorem d_MO_read_17 : decode b_MO_read 17 = .ok (.putfield 75, 3) := by decide +kernel
theorem d_MO_read_20 : decode b_MO_read 20 = .ok (.aload_n 0, 1) := by decide +kernel
theorem d_MO_read_21 : decode b_MO_read 21 = .ok (.iconst 0, 1) := by decide +kernel
theorem d_MO_read_22 : decode b_MO_read 22 = .ok (.putfield 395, 3) := by decide +kernel
theorem d_MO_read_25 : decode b_MO_read 25 = .ok (.aload_n 0, 1) := by decide +kernel
theorem d_MO_read_26 : decode b_MO_read 26 = .ok (.iconst 0, 1) := by decide +kernel
theorem d_MO_read_27 : decode b_MO_read 27 = .ok (.putfield 282, 3) := by decide +kernel
theorem d_MO_read_30 : decode b_MO_read 30 = .ok (.aload_n 0, 1) := by decide +kernel
theorem d_MO_read_31 : decode b_MO_read 31 = .ok (.iconst 0, 1) := by decide +kernel
theorem d_MO_read_32 : decode b_MO_read 32 = .ok (.putfield 264, 3) := by decide +kernel
theorem d_MO_read_35 : decode b_MO_read 35 = .ok (.aload_n 0, 1) := by decide +kernel
theorem d_MO_read_36 : decode b_MO_read 36 = .ok (.iconst 0, 1) := by decide +kernel
theorem d_MO_read_37 : decode b_MO_read 37 = .ok (.putfield 258, 3) := by decide +kernel
theorem d_MO_read_40 : decode b_MO_read 40 = .ok (.aload_n 0, 1) := by decide +kernel
theorem d_MO_read_41 : decode b_MO_read 41 = .ok (.iconst 0, 1) := by decide +kernel
theorem d_MO_read_42 : decode b_MO_read 42 = .ok (.putfield 248, 3) := by decide +kernel
theorem d_MO_read_45 : decode b_MO_read 45 = .ok (.aload_n 0, 1) := by decide +kernel
theorem d_MO_read_46 : decode b_MO_read 46 = .ok (.iconst (-1), 1) := by decide +kernel
theorem d_MO_read_47 : decode b_MO_read 47 = .ok (.aload_n 0, 1) := by decide +kernel
theorem d_MO_read_48 : decode b_MO_read 48 = .ok (.getfield 276, 3) := by decide +kernel
theorem d_MO_read_51 : decode b_MO_read 51 = .ok (.iconst 0, 1) := by decide +kernel
theorem d_MO_read_52 : decode b_MO_read 52 = .ok (.invokevirtual 392, 3) := by decide +kernel
theorem d_MO_read_55 : decode b_MO_read 55 = .ok (.aload_n 0, 1) := by decide +kernel
theorem d_MO_read_56 : decode b_MO_read 56 = .ok (.getfield 273, 3) := by decide +kernel
theorem d_MO_read_59 : decode b_MO_read 59 = .ok (.ifCond .ne 21, 3) := by decide +kernel
theorem d_MO_read_62 : decode b_MO_read 62 = .ok (.aload_n 0, 1) := by decide +kernel
theorem d_MO_read_63 : decode b_MO_read 63 = .ok (.getfield 279, 3) := by decide +kernel
theorem d_MO_read_66 : decode b_MO_read 66 = .ok (.aload_n 0, 1) := by decide +kernel
theorem d_MO_read_67 : decode b_MO_read 67 = .ok (.getfield 223, 3) := by decide +kernel
theorem d_MO_read_70 : decode b_MO_read 70 = .ok (.if_icmp .ge 10, 3) := by decide +kernel
theorem d_MO_read_73 : decode b_MO_read 73 = .ok (.aload_n 0, 1) := by decide +kernel
theorem d_MO_read_74 : decode b_MO_read 74 = .ok (.invokevirtual 433, 3) := by decide +kernel
theorem d_MO_read_77 : decode b_MO_read 77 = .ok (.goto (-22), 3) := by decide +kernel
theorem d_MO_read_80 : decode b_MO_read 80 = .ok (.aload_n 0, 1) := by decide +kernel
theorem d_MO_read_81 : decode b_MO_read 81 = .ok (.getfield 273, 3) := by decide +kernel
theorem d_MO_read_84 : decode b_MO_read 84 = .ok (.ifCond .ne 24, 3) := by decide +kernel
theorem d_MO_read_87 : decode b_MO_read 87 = .ok (.aload_n 0, 1) := by decide +kernel
theorem d_MO_read_88 : decode b_MO_read 88 = .ok (.getfield 282, 3) := by decide +kernel
theorem d_MO_read_91 : decode b_MO_read 91 = .ok (.ifCond .le 17, 3) := by decide +kernel
theorem d_MO_read_94 : decode b_MO_read 94 = .ok (.aload_n 0, 1) := by decide +kernel
theorem d_MO_read_95 : decode b_MO_read 95 = .ok (.iconst 2, 1) := by decide +kernel
theorem d_MO_read_96 : decode b_MO_read 96 = .ok (.aload_n 0, 1) := by decide +kernel
theorem d_MO_read_97 : decode b_MO_read 97 = .ok (.getfield 79, 3) := by decide +kernel
theorem d_MO_read_100 : decode b_MO_read 100 = .ok (.aload_n 0, 1) := by decide +kernel
theorem d_MO_read_101 : decode b_MO_read 101 = .ok (.getfield 282, 3) := by decide +kernel
theorem d_MO_read_104 : decode b_MO_read 104 = .ok (.iaload, 1) := by decide +kernel
theorem d_MO_read_105 : decode b_MO_read 105 = .ok (.invokevirtual 304, 3) := by decide +kernel
theorem d_MO_read_108 : decode b_MO_read 108 = .ok (.aload_n 0, 1) := by decide +kernel
theorem d_MO_read_109 : decode b_MO_read 109 = .ok (.getfield 273, 3) := by decide +kernel
theorem d_MO_read_112 : decode b_MO_read 112 = .ok (.ifCond .le 5, 3) := by decide +kernel
theorem d_MO_read_115 : decode b_MO_read 115 = .ok (.iconst (-1), 1) := by decide +kernel
theorem d_MO_read_116 : decode b_MO_read 116 = .ok (.ireturn, 1) := by decide +kernel
theorem d_MO_read_117 : decode b_MO_read 117 = .ok (.aload_n 0, 1) := by decide +kernel
theorem d_MO_read_118 : decode b_MO_read 118 = .ok (.invokevirtual 398, 3) := by decide +kernel
theorem d_MO_read_121 : decode b_MO_read 121 = .ok (.istore_n 2, 1) := by decide +kernel
theorem d_MO_read_122 : decode b_MO_read 122 = .ok (.aload_n 0, 1) := by decide +kernel
theorem d_MO_read_123 : decode b_MO_read 123 = .ok (.getfield 68, 3) := by decide +kernel
theorem d_MO_read_126 : decode b_MO_read 126 = .ok (.iload_n 2, 1) := by decide +kernel
theorem d_MO_read_127 : decode b_MO_read 127 = .ok (.laload, 1) := by decide +kernel
theorem d_MO_read_128 : decode b_MO_read 128 = .ok (.ldc2_w 436, 3) := by decide +kernel
theorem d_MO_read_131 : decode b_MO_read 131 = .ok (.lcmp, 1) := by decide +kernel
theorem d_MO_read_132 : decode b_MO_read 132 = .ok (.ifCond .le 10, 3) := by decide +kernel
theorem d_MO_read_135 : decode b_MO_read 135 = .ok (.aload_n 0, 1) := by decide +kernel
theorem d_MO_read_136 : decode b_MO_read 136 = .ok (.bipush 14, 2) := by decide +kernel
theorem d_MO_read_138 : decode b_MO_read 138 = .ok (.iconst (-1), 1) := by decide +kernel
theorem d_MO_read_139 : decode b_MO_read 139 = .ok (.invokevirtual 304, 3) := by decide +kernel
theorem d_MO_read_142 : decode b_MO_read 142 = .ok (.iload_n 2, 1) := by decide +kernel
theorem d_MO_read_143 : decode b_MO_read 143 = .ok (.ireturn, 1) := by decide +kernel
theorem d_MO_readGroup_0 : decode b_MO_readGroup 0 = .ok (.aload_n 0, 1) := by decide +kernel
theorem d_MO_readGroup_1 : decode b_MO_readGroup 1 = .ok (.getfield 279, 3) := by decide +kernel
theorem d_MO_readGroup_4 : decode b_MO_readGroup 4 = .ok (.istore_n 1, 1) := by decide +kernel
theorem d_MO_readGroup_5 : decode b_MO_readGroup 5 = .ok (.aload_n 0, 1) := by decide +kernel
theorem d_MO_readGroup_6 : decode b_MO_readGroup 6 = .ok (.iconst 1, 1) := by decide +kernel
theorem d_MO_readGroup_7 : decode b_MO_readGroup 7 = .ok (.invokevirtual 297, 3) := by decide +kernel
theorem d_MO_readGroup_10 : decode b_MO_readGroup 10 = .ok (.bipush 63, 2) := by decide +kernel
theorem d_MO_readGroup_12 : decode b_MO_readGroup 12 = .ok (.if_icmp .eq 21, 3) := by decide +kernel
theorem d_MO_readGroup_15 : decode b_MO_readGroup 15 = .ok (.aload_n 0, 1) := by decide +kernel
theorem d_MO_readGroup_16 : decode b_MO_readGroup 16 = .ok (.dup, 1) := by decide +kernel
theorem d_MO_readGroup_17 : decode b_MO_readGroup 17 = .ok (.getfield 279, 3) := by decide +kernel
theorem d_MO_readGroup_20 : decode b_MO_readGroup 20 = .ok (.iconst 1, 1) := by decide +kernel
theorem d_MO_readGroup_21 : decode b_MO_readGroup 21 = .ok (.iadd, 1) := by decide +kernel
theorem d_MO_readGroup_22 : decode b_MO_readGroup 22 = .ok (.putfield 279, 3) := by decide +kernel
theorem d_MO_readGroup_25 : decode b_MO_readGroup 25 = .ok (.aload_n 0, 1) := by decide +kernel
theorem d_MO_readGroup_26 : decode b_MO_readGroup 26 = .ok (.iload_n 1, 1) := by decide +kernel
theorem d_MO_readGroup_27 : decode b_MO_readGroup 27 = .ok (.iconst (-1), 1) := by decide +kernel
theorem d_MO_readGroup_28 : decode b_MO_readGroup 28 = .ok (.iconst 0, 1) := by decide +kernel
theorem d_MO_readGroup_29 : decode b_MO_readGroup 29 = .ok (.invokevirtual 382, 3) := by decide +kernel
theorem d_MO_readGroup_32 : decode b_MO_readGroup 32 = .ok (.return_, 1) := by decide +kernel
theorem d_MO_readGroup_33 : decode b_MO_readGroup 33 = .ok (.aload_n 0, 1) := by decide +kernel
theorem d_MO_readGroup_34 : decode b_MO_readGroup 34 = .ok (.iconst 2, 1) := by decide +kernel
theorem d_MO_readGroup_35 : decode b_MO_readGroup 35 = .ok (.invokevirtual 297, 3) := by decide +kernel
theorem d_MO_readGroup_38 : decode b_MO_readGroup 38 = .ok (.bipush 80, 2) := by decide +kernel
theorem d_MO_readGroup_40 : decode b_MO_readGroup 40 = .ok (.if_icmp .ne 9, 3) := by decide +kernel
theorem d_MO_readGroup_43 : decode b_MO_readGroup 43 = .ok (.aload_n 0, 1) := by decide +kernel
theorem d_MO_readGroup_44 : decode b_MO_readGroup 44 = .ok (.iload_n 1, 1) := by decide +kernel
theorem d_MO_readGroup_45 : decode b_MO_readGroup 45 = .ok (.invokevirtual 386, 3) := by decide +kernel
theorem d_MO_readGroup_48 : decode b_MO_readGroup 48 = .ok (.return_, 1) := by decide +kernel
theorem d_MO_readGroup_49 : decode b_MO_readGroup 49 = .ok (.aload_n 0, 1) := by decide +kernel
theorem d_MO_readGroup_50 : decode b_MO_readGroup 50 = .ok (.getfield 276, 3) := by decide +kernel
theorem d_MO_readGroup_53 : decode b_MO_readGroup 53 = .ok (.istore_n 2, 1) := by decide +kernel
theorem d_MO_readGroup_54 : decode b_MO_readGroup 54 = .ok (.iconst 2, 1) := by decide +kernel
theorem d_MO_readGroup_55 : decode b_MO_readGroup 55 = .ok (.istore_n 3, 1) := by decide +kernel
theorem d_MO_readGroup_56 : decode b_MO_readGroup 56 = .ok (.aload_n 0, 1) := by decide +kernel
theorem d_MO_readGroup_57 : decode b_MO_readGroup 57 = .ok (.iload_n 3, 1) := by decide +kernel
theorem d_MO_readGroup_58 : decode b_MO_readGroup 58 = .ok (.invokevirtual 297, 3) := by decide +kernel
theorem d_MO_readGroup_61 : decode b_MO_readGroup 61 = .ok (.invokestatic 389, 3) := by decide +kernel
theorem d_MO_readGroup_64 : decode b_MO_readGroup 64 = .ok (.ifCond .le 20, 3) := by decide +kernel
theorem d_MO_readGroup_67 : decode b_MO_readGroup 67 = .ok (.iload_n 2, 1) := by decide +kernel
theorem d_MO_readGroup_68 : decode b_MO_readGroup 68 = .ok (.aload_n 0, 1) := by decide +kernel
theorem d_MO_readGroup_69 : decode b_MO_readGroup 69 = .ok (.iload_n 3, 1) := by decide +kernel
theorem d_MO_readGroup_70 : decode b_MO_readGroup 70 = .ok (.invokevirtual 297, 3) := by decide +kernel
theorem d_MO_readGroup_73 : decode b_MO_readGroup 73 = .ok (.invokestatic 389, 3) := by decide +kernel
theorem d_MO_readGroup_76 : decode b_MO_readGroup 76 = .ok (.ior, 1) := by decide +kernel
theorem d_MO_readGroup_77 : decode b_MO_readGroup 77 = .ok (.istore_n 2, 1) := by decide +kernel
theorem d_MO_readGroup_78 : decode b_MO_readGroup 78 = .ok (.iinc 3 1, 3) := by decide +kernel
theorem d_MO_readGroup_81 : decode b_MO_readGroup 81 = .ok (.goto (-25), 3) := by decide +kernel
theorem d_MO_readGroup_84 : decode b_MO_readGroup 84 = .ok (.aload_n 0, 1) := by decide +kernel
theorem d_MO_readGroup_85 : decode b_MO_readGroup 85 = .ok (.iload_n 3, 1) := by decide +kernel
theorem d_MO_readGroup_86 : decode b_MO_readGroup 86 = .ok (.invokevirtual 297, 3) := by decide +kernel
theorem d_MO_readGroup_89 : decode b_MO_readGroup 89 = .ok (.bipush 45, 2) := by decide +kernel
theorem d_MO_readGroup_91 : decode b_MO_readGroup 91 = .ok (.if_icmp .ne 54, 3) := by decide +kernel
theorem d_MO_readGroup_94 : decode b_MO_readGroup 94 = .ok (.iinc 3 1, 3) := by decide +kernel
theorem d_MO_readGroup_97 : decode b_MO_readGroup 97 = .ok (.aload_n 0, 1) := by decide +kernel
theorem d_MO_readGroup_98 : decode b_MO_readGroup 98 = .ok (.iload_n 3, 1) := by decide +kernel
theorem d_MO_readGroup_99 : decode b_MO_readGroup 99 = .ok (.invokevirtual 297, 3) := by decide +kernel
theorem d_MO_readGroup_102 : decode b_MO_readGroup 102 = .ok (.invokestatic 389, 3) := by decide +kernel
theorem d_MO_readGroup_105 : decode b_MO_readGroup 105 = .ok (.ifCond .ne 10, 3) := by decide +kernel
theorem d_MO_readGroup_108 : decode b_MO_readGroup 108 = .ok (.aload_n 0, 1) := by decide +kernel
theorem d_MO_readGroup_109 : decode b_MO_readGroup 109 = .ok (.bipush 10, 2) := by decide +kernel
theorem d_MO_readGroup_111 : decode b_MO_readGroup 111 = .ok (.iload_n 1, 1) := by decide +kernel
theorem d_MO_readGroup_112 : decode b_MO_readGroup 112 = .ok (.invokevirtual 304, 3) := by decide +kernel
theorem d_MO_readGroup_115 : decode b_MO_readGroup 115 = .ok (.aload_n 0, 1) := by decide +kernel
theorem d_MO_readGroup_116 : decode b_MO_readGroup 116 = .ok (.iload_n 3, 1) := by decide +kernel
theorem d_MO_readGroup_117 : decode b_MO_readGroup 117 = .ok (.invokevirtual 297, 3) := by decide +kernel
theorem d_MO_readGroup_120 : decode b_MO_readGroup 120 = .ok (.invokestatic 389, 3) := by decide +kernel
theorem d_MO_readGroup_123 : decode b_MO_readGroup 123 = .ok (.ifCond .le 22, 3) := by decide +kernel
theorem d_MO_readGroup_126 : decode b_MO_readGroup 126 = .ok (.iload_n 2, 1) := by decide +kernel
theorem d_MO_readGroup_127 : decode b_MO_readGroup 127 = .ok (.aload_n 0, 1) := by decide +kernel
theorem d_MO_readGroup_128 : decode b_MO_readGroup 128 = .ok (.iload_n 3, 1) := by decide +kernel
theorem d_MO_readGroup_129 : decode b_MO_readGroup 129 = .ok (.invokevirtual 297, 3) := by decide +kernel
theorem d_MO_readGroup_132 : decode b_MO_readGroup 132 = .ok (.invokestatic 389, 3) := by decide +kernel
theorem d_MO_readGroup_135 : decode b_MO_readGroup 135 = .ok (.iconst (-1), 1) := by decide +kernel
theorem d_MO_readGroup_136 : decode b_MO_readGroup 136 = .ok (.ixor, 1) := by decide +kernel
theorem d_MO_readGroup_137 : decode b_MO_readGroup 137 = .ok (.iand, 1) := by decide +kernel
theorem d_MO_readGroup_138 : decode b_MO_readGroup 138 = .ok (.istore_n 2, 1) := by decide +kernel
theorem d_MO_readGroup_139 : decode b_MO_readGroup 139 = .ok (.iinc 3 1, 3) := by decide +kernel
theorem d_MO_readGroup_142 : decode b_MO_readGroup 142 = .ok (.goto (-27), 3) := by decide +kernel
theorem d_MO_readGroup_145 : decode b_MO_readGroup 145 = .ok (.aload_n 0, 1) := by decide +kernel
theorem d_MO_readGroup_146 : decode b_MO_readGroup 146 = .ok (.iload_n 3, 1) := by decide +kernel
theorem d_MO_readGroup_147 : decode b_MO_readGroup 147 = .ok (.invokevirtual 297, 3) := by decide +kernel
theorem d_MO_readGroup_150 : decode b_MO_readGroup 150 = .ok (.istore 4, 2) := by decide +kernel
theorem d_MO_readGroup_152 : decode b_MO_readGroup 152 = .ok (.iload 4, 2) := by decide +kernel
theorem d_MO_readGroup_154 : decode b_MO_readGroup 154 = .ok (.bipush 58, 2) := by decide +kernel
theorem d_MO_readGroup_156 : decode b_MO_readGroup 156 = .ok (.if_icmp .eq 20, 3) := by decide +kernel
theorem d_MO_readGroup_159 : decode b_MO_readGroup 159 = .ok (.iload 4, 2) := by decide +kernel
theorem d_MO_readGroup_161 : decode b_MO_readGroup 161 = .ok (.bipush 41, 2) := by decide +kernel
theorem d_MO_readGroup_163 : decode b_MO_readGroup 163 = .ok (.if_icmp .eq 13, 3) := by decide +kernel
theorem d_MO_readGroup_166 : decode b_MO_readGroup 166 = .ok (.aload_n 0, 1) := by decide +kernel
theorem d_MO_readGroup_167 : decode b_MO_readGroup 167 = .ok (.bipush 10, 2) := by decide +kernel
theorem d_MO_readGroup_169 : decode b_MO_readGroup 169 = .ok (.iload_n 1, 1) := by decide +kernel
theorem d_MO_readGroup_170 : decode b_MO_readGroup 170 = .ok (.invokevirtual 304, 3) := by decide +kernel
theorem d_MO_readGroup_173 : decode b_MO_readGroup 173 = .ok (.goto 26, 3) := by decide +kernel
theorem d_MO_readGroup_176 : decode b_MO_readGroup 176 = .ok (.iload 4, 2) := by decide +kernel
theorem d_MO_readGroup_178 : decode b_MO_readGroup 178 = .ok (.bipush 58, 2) := by decide +kernel
theorem d_MO_readGroup_180 : decode b_MO_readGroup 180 = .ok (.if_icmp .ne 19, 3) := by decide +kernel
theorem d_MO_readGroup_183 : decode b_MO_readGroup 183 = .ok (.aload_n 0, 1) := by decide +kernel
theorem d_MO_readGroup_184 : decode b_MO_readGroup 184 = .ok (.getfield 282, 3) := by decide +kernel
theorem d_MO_readGroup_187 : decode b_MO_readGroup 187 = .ok (.bipush 30, 2) := by decide +kernel
theorem d_MO_readGroup_189 : decode b_MO_readGroup 189 = .ok (.if_icmp .ne 10, 3) := by decide +kernel
theorem d_MO_readGroup_192 : decode b_MO_readGroup 192 = .ok (.aload_n 0, 1) := by decide +kernel
theorem d_MO_readGroup_193 : decode b_MO_readGroup 193 = .ok (.bipush 12, 2) := by decide +kernel
theorem d_MO_readGroup_195 : decode b_MO_readGroup 195 = .ok (.iload_n 1, 1) := by decide +kernel
theorem d_MO_readGroup_196 : decode b_MO_readGroup 196 = .ok (.invokevirtual 304, 3) := by decide +kernel
theorem d_MO_readGroup_199 : decode b_MO_readGroup 199 = .ok (.aload_n 0, 1) := by decide +kernel
theorem d_MO_readGroup_200 : decode b_MO_readGroup 200 = .ok (.getfield 273, 3) := by decide +kernel
theorem d_MO_readGroup_203 : decode b_MO_readGroup 203 = .ok (.ifCond .le 4, 3) := by decide +kernel
theorem d_MO_readGroup_206 : decode b_MO_readGroup 206 = .ok (.return_, 1) := by decide +kernel
theorem d_MO_readGroup_207 : decode b_MO_readGroup 207 = .ok (.aload_n 0, 1) := by decide +kernel
theorem d_MO_readGroup_208 : decode b_MO_readGroup 208 = .ok (.dup, 1) := by decide +kernel
theorem d_MO_readGroup_209 : decode b_MO_readGroup 209 = .ok (.getfield 279, 3) := by decide +kernel
theorem d_MO_readGroup_212 : decode b_MO_readGroup 212 = .ok (.iload_n 3, 1) := by decide +kernel
theorem d_MO_readGroup_213 : decode b_MO_readGroup 213 = .ok (.iconst 1, 1) := by decide +kernel
theorem d_MO_readGroup_214 : decode b_MO_readGroup 214 = .ok (.iadd, 1) := by decide +kernel
theorem d_MO_readGroup_215 : decode b_MO_readGroup 215 = .ok (.iadd, 1) := by decide +kernel
theorem d_MO_readGroup_216 : decode b_MO_readGroup 216 = .ok (.putfield 279, 3) := by decide +kernel
theorem d_MO_readGroup_219 : decode b_MO_readGroup 219 = .ok (.iload 4, 2) := by decide +kernel
theorem d_MO_readGroup_221 : decode b_MO_readGroup 221 = .ok (.bipush 41, 2) := by decide +kernel
theorem d_MO_readGroup_223 : decode b_MO_readGroup 223 = .ok (.if_icmp .ne 21, 3) := by decide +kernel
theorem d_MO_readGroup_226 : decode b_MO_readGroup 226 = .ok (.aload_n 0, 1) := by decide +kernel
theorem d_MO_readGroup_227 : decode b_MO_readGroup 227 = .ok (.iload_n 2, 1) := by decide +kernel
theorem d_MO_readGroup_228 : decode b_MO_readGroup 228 = .ok (.putfield 276, 3) := by decide +kernel
theorem d_MO_readGroup_231 : decode b_MO_readGroup 231 = .ok (.aload_n 0, 1) := by decide +kernel
theorem d_MO_readGroup_232 : decode b_MO_readGroup 232 = .ok (.aload_n 0, 1) := by decide +kernel
theorem d_MO_readGroup_233 : decode b_MO_readGroup 233 = .ok (.iconst 0, 1) := by decide +kernel
theorem d_MO_readGroup_234 : decode b_MO_readGroup 234 = .ok (.iconst 0, 1) := by decide +kernel
theorem d_MO_readGroup_235 : decode b_MO_readGroup 235 = .ok (.lconst 0, 1) := by decide +kernel
theorem d_MO_readGroup_236 : decode b_MO_readGroup 236 = .ok (.invokevirtual 269, 3) := by decide +kernel
theorem d_MO_readGroup_239 : decode b_MO_readGroup 239 = .ok (.iconst 2, 1) := by decide +kernel
theorem d_MO_readGroup_240 : decode b_MO_readGroup 240 = .ok (.invokevirtual 375, 3) := by decide +kernel
theorem d_MO_readGroup_243 : decode b_MO_readGroup 243 = .ok (.return_, 1) := by decide +kernel
theorem d_MO_readGroup_244 : decode b_MO_readGroup 244 = .ok (.aload_n 0, 1) := by decide +kernel
theorem d_MO_readGroup_245 : decode b_MO_readGroup 245 = .ok (.dup, 1) := by decide +kernel
theorem d_MO_readGroup_246 : decode b_MO_readGroup 246 = .ok (.getfield 282, 3) := by decide +kernel
theorem d_MO_readGroup_249 : decode b_MO_readGroup 249 = .ok (.iconst 1, 1) := by decide +kernel
theorem d_MO_readGroup_250 : decode b_MO_readGroup 250 = .ok (.iadd, 1) := by decide +kernel
theorem d_MO_readGroup_251 : decode b_MO_readGroup 251 = .ok (.putfield 282, 3) := by decide +kernel
theorem d_MO_readGroup_254 : decode b_MO_readGroup 254 = .ok (.aload_n 0, 1) := by decide +kernel
theorem d_MO_readGroup_255 : decode b_MO_readGroup 255 = .ok (.iload_n 1, 1) := by decide +kernel
theorem d_MO_readGroup_256 : decode b_MO_readGroup 256 = .ok (.aload_n 0, 1) := by decide +kernel
theorem d_MO_readGroup_257 : decode b_MO_readGroup 257 = .ok (.getfield 276, 3) := by decide +kernel
theorem d_MO_readGroup_260 : decode b_MO_readGroup 260 = .ok (.iconst 0, 1) := by decide +kernel
theorem d_MO_readGroup_261 : decode b_MO_readGroup 261 = .ok (.invokevirtual 392, 3) := by decide +kernel
theorem d_MO_readGroup_264 : decode b_MO_readGroup 264 = .ok (.aload_n 0, 1) := by decide +kernel
theorem d_MO_readGroup_265 : decode b_MO_readGroup 265 = .ok (.iload_n 2, 1) := by decide +kernel
theorem d_MO_readGroup_266 : decode b_MO_readGroup 266 = .ok (.putfield 276, 3) := by decide +kernel
theorem d_MO_readGroup_269 : decode b_MO_readGroup 269 = .ok (.return_, 1) := by decide +kernel
theorem d_MO_readName_0 : decode b_MO_readName 0 = .ok (.aload_n 0, 1) := by decide +kernel
theorem d_MO_readName_1 : decode b_MO_readName 1 = .ok (.getfield 279, 3) := by decide +kernel
theorem d_MO_readName_4 : decode b_MO_readName 4 = .ok (.iconst 4, 1) := by decide +kernel
theorem d_MO_readName_5 : decode b_MO_readName 5 = .ok (.iadd, 1) := by decide +kernel
theorem d_MO_readName_6 : decode b_MO_readName 6 = .ok (.istore_n 2, 1) := by decide +kernel
theorem d_MO_readName_7 : decode b_MO_readName 7 = .ok (.iconst 0, 1) := by decide +kernel
theorem d_MO_readName_8 : decode b_MO_readName 8 = .ok (.istore_n 3, 1) := by decide +kernel
theorem d_MO_readName_9 : decode b_MO_readName 9 = .ok (.iload_n 3, 1) := by decide +kernel
theorem d_MO_readName_10 : decode b_MO_readName 10 = .ok (.bipush 13, 2) := by decide +kernel
theorem d_MO_readName_12 : decode b_MO_readName 12 = .ok (.if_icmp .ge 32, 3) := by decide +kernel
theorem d_MO_readName_15 : decode b_MO_readName 15 = .ok (.aload_n 0, 1) := by decide +kernel
theorem d_MO_readName_16 : decode b_MO_readName 16 = .ok (.iconst 4, 1) := by decide +kernel
theorem d_MO_readName_17 : decode b_MO_readName 17 = .ok (.iload_n 3, 1) := by decide +kernel
theorem d_MO_readName_18 : decode b_MO_readName 18 = .ok (.iadd, 1) := by decide +kernel
theorem d_MO_readName_19 : decode b_MO_readName 19 = .ok (.invokevirtual 297, 3) := by decide +kernel
theorem d_MO_readName_22 : decode b_MO_readName 22 = .ok (.ifCond .lt 22, 3) := by decide +kernel
theorem d_MO_readName_25 : decode b_MO_readName 25 = .ok (.aload_n 0, 1) := by decide +kernel
theorem d_MO_readName_26 : decode b_MO_readName 26 = .ok (.iconst 4, 1) := by decide +kernel
theorem d_MO_readName_27 : decode b_MO_readName 27 = .ok (.iload_n 3, 1) := by decide +kernel
theorem d_MO_readName_28 : decode b_MO_readName 28 = .ok (.iadd, 1) := by decide +kernel
theorem d_MO_readName_29 : decode b_MO_readName 29 = .ok (.invokevirtual 297, 3) := by decide +kernel
theorem d_MO_readName_32 : decode b_MO_readName 32 = .ok (.invokestatic 326, 3) := by decide +kernel
theorem d_MO_readName_35 : decode b_MO_readName 35 = .ok (.ifCond .eq 9, 3) := by decide +kernel
theorem d_MO_readName_38 : decode b_MO_readName 38 = .ok (.iinc 3 1, 3) := by decide +kernel
theorem d_MO_readName_41 : decode b_MO_readName 41 = .ok (.goto (-32), 3) := by decide +kernel
theorem d_MO_readName_44 : decode b_MO_readName 44 = .ok (.aload_n 0, 1) := by decide +kernel
theorem d_MO_readName_45 : decode b_MO_readName 45 = .ok (.iconst 3, 1) := by decide +kernel
theorem d_MO_readName_46 : decode b_MO_readName 46 = .ok (.invokevirtual 297, 3) := by decide +kernel
theorem d_MO_readName_49 : decode b_MO_readName 49 = .ok (.bipush 60, 2) := by decide +kernel
theorem d_MO_readName_51 : decode b_MO_readName 51 = .ok (.if_icmp .ne 26, 3) := by decide +kernel
theorem d_MO_readName_54 : decode b_MO_readName 54 = .ok (.iload_n 3, 1) := by decide +kernel
theorem d_MO_readName_55 : decode b_MO_readName 55 = .ok (.iconst 1, 1) := by decide +kernel
theorem d_MO_readName_56 : decode b_MO_readName 56 = .ok (.if_icmp .lt 21, 3) := by decide +kernel
theorem d_MO_readName_59 : decode b_MO_readName 59 = .ok (.iload_n 3, 1) := by decide +kernel
theorem d_MO_readName_60 : decode b_MO_readName 60 = .ok (.bipush 12, 2) := by decide +kernel
theorem d_MO_readName_62 : decode b_MO_readName 62 = .ok (.if_icmp .gt 15, 3) := by decide +kernel
theorem d_MO_readName_65 : decode b_MO_readName 65 = .ok (.aload_n 0, 1) := by decide +kernel
theorem d_MO_readName_66 : decode b_MO_readName 66 = .ok (.iconst 4, 1) := by decide +kernel
theorem d_MO_readName_67 : decode b_MO_readName 67 = .ok (.iload_n 3, 1) := by decide +kernel
theorem d_MO_readName_68 : decode b_MO_readName 68 = .ok (.iadd, 1) := by decide +kernel
theorem d_MO_readName_69 : decode b_MO_readName 69 = .ok (.invokevirtual 297, 3) := by decide +kernel
theorem d_MO_readName_72 : decode b_MO_readName 72 = .ok (.bipush 62, 2) := by decide +kernel
theorem d_MO_readName_74 : decode b_MO_readName 74 = .ok (.if_icmp .eq 11, 3) := by decide +kernel
theorem d_MO_readName_77 : decode b_MO_readName 77 = .ok (.aload_n 0, 1) := by decide +kernel
theorem d_MO_readName_78 : decode b_MO_readName 78 = .ok (.bipush 10, 2) := by decide +kernel
theorem d_MO_readName_80 : decode b_MO_readName 80 = .ok (.iload_n 1, 1) := by decide +kernel
theorem d_MO_readName_81 : decode b_MO_readName 81 = .ok (.invokevirtual 304, 3) := by decide +kernel
theorem d_MO_readName_84 : decode b_MO_readName 84 = .ok (.return_, 1) := by decide +kernel
theorem d_MO_readName_85 : decode b_MO_readName 85 = .ok (.iconst 1, 1) := by decide +kernel
theorem d_MO_readName_86 : decode b_MO_readName 86 = .ok (.istore 4, 2) := by decide +kernel
theorem d_MO_readName_88 : decode b_MO_readName 88 = .ok (.iload 4, 2) := by decide +kernel
theorem d_MO_readName_90 : decode b_MO_readName 90 = .ok (.aload_n 0, 1) := by decide +kernel
theorem d_MO_readName_91 : decode b_MO_readName 91 = .ok (.getfield 395, 3) := by decide +kernel
theorem d_MO_readName_94 : decode b_MO_readName 94 = .ok (.if_icmp .gt 98, 3) := by decide +kernel
theorem d_MO_readName_97 : decode b_MO_readName 97 = .ok (.iload 4, 2) := by decide +kernel
theorem d_MO_readName_99 : decode b_MO_readName 99 = .ok (.bipush 10, 2) := by decide +kernel
theorem d_MO_readName_101 : decode b_MO_readName 101 = .ok (.if_icmp .ge 91, 3) := by decide +kernel
theorem d_MO_readName_104 : decode b_MO_readName 104 = .ok (.aload_n 0, 1) := by decide +kernel
theorem d_MO_readName_105 : decode b_MO_readName 105 = .ok (.getfield 106, 3) := by decide +kernel
theorem d_MO_readName_108 : decode b_MO_readName 108 = .ok (.iload 4, 2) := by decide +kernel
theorem d_MO_readName_110 : decode b_MO_readName 110 = .ok (.iaload, 1) := by decide +kernel
theorem d_MO_readName_111 : decode b_MO_readName 111 = .ok (.iload_n 3, 1) := by decide +kernel
theorem d_MO_readName_112 : decode b_MO_readName 112 = .ok (.if_icmp .ne 7, 3) := by decide +kernel
theorem d_MO_readName_115 : decode b_MO_readName 115 = .ok (.iconst 1, 1) := by decide +kernel
theorem d_MO_readName_116 : decode b_MO_readName 116 = .ok (.goto 4, 3) := by decide +kernel
theorem d_MO_readName_119 : decode b_MO_readName 119 = .ok (.iconst 0, 1) := by decide +kernel
theorem d_MO_readName_120 : decode b_MO_readName 120 = .ok (.istore 5, 2) := by decide +kernel
theorem d_MO_readName_122 : decode b_MO_readName 122 = .ok (.iconst 0, 1) := by decide +kernel
theorem d_MO_readName_123 : decode b_MO_readName 123 = .ok (.istore 6, 2) := by decide +kernel
theorem d_MO_readName_125 : decode b_MO_readName 125 = .ok (.iload 6, 2) := by decide +kernel
theorem d_MO_readName_127 : decode b_MO_readName 127 = .ok (.iload_n 3, 1) := by decide +kernel
theorem d_MO_readName_128 : decode b_MO_readName 128 = .ok (.if_icmp .ge 46, 3) := by decide +kernel
theorem d_MO_readName_131 : decode b_MO_readName 131 = .ok (.iload 5, 2) := by decide +kernel
theorem d_MO_readName_133 : decode b_MO_readName 133 = .ok (.ifCond .eq 41, 3) := by decide +kernel
theorem d_MO_readName_136 : decode b_MO_readName 136 = .ok (.aload_n 0, 1) := by decide +kernel
theorem d_MO_readName_137 : decode b_MO_readName 137 = .ok (.getfield 103, 3) := by decide +kernel
theorem d_MO_readName_140 : decode b_MO_readName 140 = .ok (.bipush 12, 2) := by decide +kernel
theorem d_MO_readName_142 : decode b_MO_readName 142 = .ok (.iload 4, 2) := by decide +kernel
theorem d_MO_readName_144 : decode b_MO_readName 144 = .ok (.imul, 1) := by decide +kernel
theorem d_MO_readName_145 : decode b_MO_readName 145 = .ok (.iload 6, 2) := by decide +kernel
theorem d_MO_readName_147 : decode b_MO_readName 147 = .ok (.iadd, 1) := by decide +kernel
theorem d_MO_readName_148 : decode b_MO_readName 148 = .ok (.iaload, 1) := by decide +kernel
theorem d_MO_readName_149 : decode b_MO_readName 149 = .ok (.aload_n 0, 1) := by decide +kernel
theorem d_MO_readName_150 : decode b_MO_readName 150 = .ok (.getfield 19, 3) := by decide +kernel
theorem d_MO_readName_153 : decode b_MO_readName 153 = .ok (.iload_n 2, 1) := by decide +kernel
theorem d_MO_readName_154 : decode b_MO_readName 154 = .ok (.iload 6, 2) := by decide +kernel
theorem d_MO_readName_156 : decode b_MO_readName 156 = .ok (.iadd, 1) := by decide +kernel
theorem d_MO_readName_157 : decode b_MO_readName 157 = .ok (.iaload, 1) := by decide +kernel
theorem d_MO_readName_158 : decode b_MO_readName 158 = .ok (.if_icmp .ne 7, 3) := by decide +kernel
theorem d_MO_readName_161 : decode b_MO_readName 161 = .ok (.iconst 1, 1) := by decide +kernel
theorem d_MO_readName_162 : decode b_MO_readName 162 = .ok (.goto 4, 3) := by decide +kernel
theorem d_MO_readName_165 : decode b_MO_readName 165 = .ok (.iconst 0, 1) := by decide +kernel
theorem d_MO_readName_166 : decode b_MO_readName 166 = .ok (.istore 5, 2) := by decide +kernel
theorem d_MO_readName_168 : decode b_MO_readName 168 = .ok (.iinc 6 1, 3) := by decide +kernel
theorem d_MO_readName_171 : decode b_MO_readName 171 = .ok (.goto (-46), 3) := by decide +kernel
theorem d_MO_readName_174 : decode b_MO_readName 174 = .ok (.iload 5, 2) := by decide +kernel
theorem d_MO_readName_176 : decode b_MO_readName 176 = .ok (.ifCond .eq 10, 3) := by decide +kernel
theorem d_MO_readName_179 : decode b_MO_readName 179 = .ok (.aload_n 0, 1) := by decide +kernel
theorem d_MO_readName_180 : decode b_MO_readName 180 = .ok (.bipush 11, 2) := by decide +kernel
theorem d_MO_readName_182 : decode b_MO_readName 182 = .ok (.iload_n 1, 1) := by decide +kernel
theorem d_MO_readName_183 : decode b_MO_readName 183 = .ok (.invokevirtual 304, 3) := by decide +kernel
theorem d_MO_readName_186 : decode b_MO_readName 186 = .ok (.iinc 4 1, 3) := by decide +kernel
theorem d_MO_readName_189 : decode b_MO_readName 189 = .ok (.goto (-101), 3) := by decide +kernel
theorem d_MO_readName_192 : decode b_MO_readName 192 = .ok (.aload_n 0, 1) := by decide +kernel
theorem d_MO_readName_193 : decode b_MO_readName 193 = .ok (.dup, 1) := by decide +kernel
theorem d_MO_readName_194 : decode b_MO_readName 194 = .ok (.getfield 279, 3) := by decide +kernel
theorem d_MO_readName_197 : decode b_MO_readName 197 = .ok (.iconst 5, 1) := by decide +kernel
theorem d_MO_readName_198 : decode b_MO_readName 198 = .ok (.iload_n 3, 1) := by decide +kernel
theorem d_MO_readName_199 : decode b_MO_readName 199 = .ok (.iadd, 1) := by decide +kernel
theorem d_MO_readName_200 : decode b_MO_readName 200 = .ok (.iadd, 1) := by decide +kernel
theorem d_MO_readName_201 : decode b_MO_readName 201 = .ok (.putfield 279, 3) := by decide +kernel
theorem d_MO_readName_204 : decode b_MO_readName 204 = .ok (.aload_n 0, 1) := by decide +kernel
theorem d_MO_readName_205 : decode b_MO_readName 205 = .ok (.getfield 273, 3) := by decide +kernel
theorem d_MO_readName_208 : decode b_MO_readName 208 = .ok (.ifCond .ne 10, 3) := by decide +kernel
theorem d_MO_readName_211 : decode b_MO_readName 211 = .ok (.aload_n 0, 1) := by decide +kernel
theorem d_MO_readName_212 : decode b_MO_readName 212 = .ok (.iload_n 1, 1) := by decide +kernel
theorem d_MO_readName_213 : decode b_MO_readName 213 = .ok (.iload_n 2, 1) := by decide +kernel
theorem d_MO_readName_214 : decode b_MO_readName 214 = .ok (.iload_n 3, 1) := by decide +kernel
theorem d_MO_readName_215 : decode b_MO_readName 215 = .ok (.invokevirtual 382, 3) := by decide +kernel
theorem d_MO_readName_218 : decode b_MO_readName 218 = .ok (.return_, 1) := by decide +kernel
theorem d_MO_readPart_0 : decode b_MO_readPart 0 = .ok (.aload_n 0, 1) := by decide +kernel
theorem d_MO_readPart_1 : decode b_MO_readPart 1 = .ok (.iconst 0, 1) := by decide +kernel
theorem d_MO_readPart_2 : decode b_MO_readPart 2 = .ok (.invokevirtual 297, 3) := by decide +kernel
theorem d_MO_readPart_5 : decode b_MO_readPart 5 = .ok (.istore_n 1, 1) := by decide +kernel
theorem d_MO_readPart_6 : decode b_MO_readPart 6 = .ok (.iload_n 1, 1) := by decide +kernel
theorem d_MO_readPart_7 : decode b_MO_readPart 7 = .ok (.lookupswitch 261 #[(36, 186), (40, 118), (41, 125), (42, 223), (43, 223), (46, 111), (63, 223), (91, 104), (92, 97), (94, 149), (124, 132)], 97) := by decide +kernel
theorem d_MO_readPart_104 : decode b_MO_readPart 104 = .ok (.aload_n 0, 1) := by decide +kernel
theorem d_MO_readPart_105 : decode b_MO_readPart 105 = .ok (.invokevirtual 412, 3) := by decide +kernel
theorem d_MO_readPart_108 : decode b_MO_readPart 108 = .ok (.goto 204, 3) := by decide +kernel
theorem d_MO_readPart_111 : decode b_MO_readPart 111 = .ok (.aload_n 0, 1) := by decide +kernel
theorem d_MO_readPart_112 : decode b_MO_readPart 112 = .ok (.invokevirtual 415, 3) := by decide +kernel
theorem d_MO_readPart_115 : decode b_MO_readPart 115 = .ok (.goto 197, 3) := by decide +kernel
theorem d_MO_readPart_118 : decode b_MO_readPart 118 = .ok (.aload_n 0, 1) := by decide +kernel
theorem d_MO_readPart_119 : decode b_MO_readPart 119 = .ok (.invokevirtual 418, 3) := by decide +kernel
theorem d_MO_readPart_122 : decode b_MO_readPart 122 = .ok (.goto 190, 3) := by decide +kernel
theorem d_MO_readPart_125 : decode b_MO_readPart 125 = .ok (.aload_n 0, 1) := by decide +kernel
theorem d_MO_readPart_126 : decode b_MO_readPart 126 = .ok (.invokevirtual 421, 3) := by decide +kernel
theorem d_MO_readPart_129 : decode b_MO_readPart 129 = .ok (.goto 183, 3) := by decide +kernel
theorem d_MO_readPart_132 : decode b_MO_readPart 132 = .ok (.aload_n 0, 1) := by decide +kernel
theorem d_MO_readPart_133 : decode b_MO_readPart 133 = .ok (.invokevirtual 424, 3) := by decide +kernel
theorem d_MO_readPart_136 : decode b_MO_readPart 136 = .ok (.goto 176, 3) := by decide +kernel
theorem d_MO_readPart_139 : decode b_MO_readPart 139 = .ok (.aload_n 0, 1) := by decide +kernel
theorem d_MO_readPart_140 : decode b_MO_readPart 140 = .ok (.invokevirtual 292, 3) := by decide +kernel
theorem d_MO_readPart_143 : decode b_MO_readPart 143 = .ok (.aload_n 0, 1) := by decide +kernel
theorem d_MO_readPart_144 : decode b_MO_readPart 144 = .ok (.dup, 1) := by decide +kernel
theorem d_MO_readPart_145 : decode b_MO_readPart 145 = .ok (.getfield 279, 3) := by decide +kernel
theorem d_MO_readPart_148 : decode b_MO_readPart 148 = .ok (.iconst 1, 1) := by decide +kernel
theorem d_MO_readPart_149 : decode b_MO_readPart 149 = .ok (.iadd, 1) := by decide +kernel
theorem d_MO_readPart_150 : decode b_MO_readPart 150 = .ok (.putfield 279, 3) := by decide +kernel
theorem d_MO_readPart_153 : decode b_MO_readPart 153 = .ok (.goto 159, 3) := by decide +kernel
theorem d_MO_readPart_156 : decode b_MO_readPart 156 = .ok (.aload_n 0, 1) := by decide +kernel
theorem d_MO_readPart_157 : decode b_MO_readPart 157 = .ok (.aload_n 0, 1) := by decide +kernel
theorem d_MO_readPart_158 : decode b_MO_readPart 158 = .ok (.iconst 3, 1) := by decide +kernel
theorem d_MO_readPart_159 : decode b_MO_readPart 159 = .ok (.aload_n 0, 1) := by decide +kernel
theorem d_MO_readPart_160 : decode b_MO_readPart 160 = .ok (.iconst 2, 1) := by decide +kernel
theorem d_MO_readPart_161 : decode b_MO_readPart 161 = .ok (.invokevirtual 355, 3) := by decide +kernel
theorem d_MO_readPart_164 : decode b_MO_readPart 164 = .ok (.ifCond .eq 7, 3) := by decide +kernel
theorem d_MO_readPart_167 : decode b_MO_readPart 167 = .ok (.iconst 4, 1) := by decide +kernel
theorem d_MO_readPart_168 : decode b_MO_readPart 168 = .ok (.goto 4, 3) := by decide +kernel
theorem d_MO_readPart_171 : decode b_MO_readPart 171 = .ok (.iconst 0, 1) := by decide +kernel
theorem d_MO_readPart_172 : decode b_MO_readPart 172 = .ok (.lconst 1, 1) := by decide +kernel
theorem d_MO_readPart_173 : decode b_MO_readPart 173 = .ok (.invokevirtual 269, 3) := by decide +kernel
theorem d_MO_readPart_176 : decode b_MO_readPart 176 = .ok (.iconst 1, 1) := by decide +kernel
theorem d_MO_readPart_177 : decode b_MO_readPart 177 = .ok (.invokevirtual 375, 3) := by decide +kernel
theorem d_MO_readPart_180 : decode b_MO_readPart 180 = .ok (.aload_n 0, 1) := by decide +kernel
theorem d_MO_readPart_181 : decode b_MO_readPart 181 = .ok (.dup, 1) := by decide +kernel
theorem d_MO_readPart_182 : decode b_MO_readPart 182 = .ok (.getfield 279, 3) := by decide +kernel
theorem d_MO_readPart_185 : decode b_MO_readPart 185 = .ok (.iconst 1, 1) := by decide +kernel
theorem d_MO_readPart_186 : decode b_MO_readPart 186 = .ok (.iadd, 1) := by decide +kernel
theorem d_MO_readPart_187 : decode b_MO_readPart 187 = .ok (.putfield 279, 3) := by decide +kernel
theorem d_MO_readPart_190 : decode b_MO_readPart 190 = .ok (.goto 122, 3) := by decide +kernel
theorem d_MO_readPart_193 : decode b_MO_readPart 193 = .ok (.aload_n 0, 1) := by decide +kernel
theorem d_MO_readPart_194 : decode b_MO_readPart 194 = .ok (.aload_n 0, 1) := by decide +kernel
theorem d_MO_readPart_195 : decode b_MO_readPart 195 = .ok (.iconst 3, 1) := by decide +kernel
theorem d_MO_readPart_196 : decode b_MO_readPart 196 = .ok (.aload_n 0, 1) := by decide +kernel
theorem d_MO_readPart_197 : decode b_MO_readPart 197 = .ok (.iconst 2, 1) := by decide +kernel
theorem d_MO_readPart_198 : decode b_MO_readPart 198 = .ok (.invokevirtual 355, 3) := by decide +kernel
theorem d_MO_readPart_201 : decode b_MO_readPart 201 = .ok (.ifCond .eq 7, 3) := by decide +kernel
theorem d_MO_readPart_204 : decode b_MO_readPart 204 = .ok (.iconst 5, 1) := by decide +kernel
theorem d_MO_readPart_205 : decode b_MO_readPart 205 = .ok (.goto 4, 3) := by decide +kernel
theorem d_MO_readPart_208 : decode b_MO_readPart 208 = .ok (.iconst 1, 1) := by decide +kernel
theorem d_MO_readPart_209 : decode b_MO_readPart 209 = .ok (.lconst 1, 1) := by decide +kernel
theorem d_MO_readPart_210 : decode b_MO_readPart 210 = .ok (.invokevirtual 269, 3) := by decide +kernel
theorem d_MO_readPart_213 : decode b_MO_readPart 213 = .ok (.iconst 1, 1) := by decide +kernel
theorem d_MO_readPart_214 : decode b_MO_readPart 214 = .ok (.invokevirtual 375, 3) := by decide +kernel
theorem d_MO_readPart_217 : decode b_MO_readPart 217 = .ok (.aload_n 0, 1) := by decide +kernel
theorem d_MO_readPart_218 : decode b_MO_readPart 218 = .ok (.dup, 1) := by decide +kernel
theorem d_MO_readPart_219 : decode b_MO_readPart 219 = .ok (.getfield 279, 3) := by decide +kernel
theorem d_MO_readPart_222 : decode b_MO_readPart 222 = .ok (.iconst 1, 1) := by decide +kernel
theorem d_MO_readPart_223 : decode b_MO_readPart 223 = .ok (.iadd, 1) := by decide +kernel
theorem d_MO_readPart_224 : decode b_MO_readPart 224 = .ok (.putfield 279, 3) := by decide +kernel
theorem d_MO_readPart_227 : decode b_MO_readPart 227 = .ok (.goto 85, 3) := by decide +kernel
theorem d_MO_readPart_230 : decode b_MO_readPart 230 = .ok (.aload_n 0, 1) := by decide +kernel
theorem d_MO_readPart_231 : decode b_MO_readPart 231 = .ok (.iload_n 1, 1) := by decide +kernel
theorem d_MO_readPart_232 : decode b_MO_readPart 232 = .ok (.bipush 43, 2) := by decide +kernel
theorem d_MO_readPart_234 : decode b_MO_readPart 234 = .ok (.if_icmp .ne 7, 3) := by decide +kernel
theorem d_MO_readPart_237 : decode b_MO_readPart 237 = .ok (.iconst 1, 1) := by decide +kernel
theorem d_MO_readPart_238 : decode b_MO_readPart 238 = .ok (.goto 4, 3) := by decide +kernel
theorem d_MO_readPart_241 : decode b_MO_readPart 241 = .ok (.iconst 0, 1) := by decide +kernel
theorem d_MO_readPart_242 : decode b_MO_readPart 242 = .ok (.putfield 403, 3) := by decide +kernel
theorem d_MO_readPart_245 : decode b_MO_readPart 245 = .ok (.aload_n 0, 1) := by decide +kernel
theorem d_MO_readPart_246 : decode b_MO_readPart 246 = .ok (.iload_n 1, 1) := by decide +kernel
theorem d_MO_readPart_247 : decode b_MO_readPart 247 = .ok (.bipush 63, 2) := by decide +kernel
theorem d_MO_readPart_249 : decode b_MO_readPart 249 = .ok (.if_icmp .ne 7, 3) := by decide +kernel
theorem d_MO_readPart_252 : decode b_MO_readPart 252 = .ok (.iconst 1, 1) := by decide +kernel
theorem d_MO_readPart_253 : decode b_MO_readPart 253 = .ok (.goto 4, 3) := by decide +kernel
theorem d_MO_readPart_256 : decode b_MO_readPart 256 = .ok (.iconst (-1), 1) := by decide +kernel
theorem d_MO_readPart_257 : decode b_MO_readPart 257 = .ok (.putfield 406, 3) := by decide +kernel
theorem d_MO_readPart_260 : decode b_MO_readPart 260 = .ok (.aload_n 0, 1) := by decide +kernel
theorem d_MO_readPart_261 : decode b_MO_readPart 261 = .ok (.iconst 1, 1) := by decide +kernel
theorem d_MO_readPart_262 : decode b_MO_readPart 262 = .ok (.invokevirtual 427, 3) := by decide +kernel
theorem d_MO_readPart_265 : decode b_MO_readPart 265 = .ok (.goto 47, 3) := by decide +kernel
theorem d_MO_readPart_268 : decode b_MO_readPart 268 = .ok (.iload_n 1, 1) := by decide +kernel
theorem d_MO_readPart_269 : decode b_MO_readPart 269 = .ok (.bipush 123, 2) := by decide +kernel
theorem d_MO_readPart_271 : decode b_MO_readPart 271 = .ok (.if_icmp .ne 10, 3) := by decide +kernel
theorem d_MO_readPart_274 : decode b_MO_readPart 274 = .ok (.aload_n 0, 1) := by decide +kernel
theorem d_MO_readPart_275 : decode b_MO_readPart 275 = .ok (.invokevirtual 430, 3) := by decide +kernel
theorem d_MO_readPart_278 : decode b_MO_readPart 278 = .ok (.goto 4, 3) := by decide +kernel
theorem d_MO_readPart_281 : decode b_MO_readPart 281 = .ok (.iconst (-1), 1) := by decide +kernel
theorem d_MO_readPart_282 : decode b_MO_readPart 282 = .ok (.istore_n 2, 1) := by decide +kernel
theorem d_MO_readPart_283 : decode b_MO_readPart 283 = .ok (.iload_n 2, 1) := by decide +kernel
theorem d_MO_readPart_284 : decode b_MO_readPart 284 = .ok (.ifCond .le 11, 3) := by decide +kernel
theorem d_MO_readPart_287 : decode b_MO_readPart 287 = .ok (.aload_n 0, 1) := by decide +kernel
theorem d_MO_readPart_288 : decode b_MO_readPart 288 = .ok (.iload_n 2, 1) := by decide +kernel
theorem d_MO_readPart_289 : decode b_MO_readPart 289 = .ok (.invokevirtual 427, 3) := by decide +kernel
theorem d_MO_readPart_292 : decode b_MO_readPart 292 = .ok (.goto 20, 3) := by decide +kernel
theorem d_MO_readPart_295 : decode b_MO_readPart 295 = .ok (.aload_n 0, 1) := by decide +kernel
theorem d_MO_readPart_296 : decode b_MO_readPart 296 = .ok (.invokevirtual 348, 3) := by decide +kernel
theorem d_MO_readPart_299 : decode b_MO_readPart 299 = .ok (.istore_n 3, 1) := by decide +kernel
theorem d_MO_readPart_300 : decode b_MO_readPart 300 = .ok (.aload_n 0, 1) := by decide +kernel
theorem d_MO_readPart_301 : decode b_MO_readPart 301 = .ok (.getfield 273, 3) := by decide +kernel
theorem d_MO_readPart_304 : decode b_MO_readPart 304 = .ok (.ifCond .ne 8, 3) := by decide +kernel
theorem d_MO_readPart_307 : decode b_MO_readPart 307 = .ok (.aload_n 0, 1) := by decide +kernel
theorem d_MO_readPart_308 : decode b_MO_readPart 308 = .ok (.iload_n 3, 1) := by decide +kernel
theorem d_MO_readPart_309 : decode b_MO_readPart 309 = .ok (.invokevirtual 378, 3) := by decide +kernel
