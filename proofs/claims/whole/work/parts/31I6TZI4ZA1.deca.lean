theorem d_MO_addPiece_0 : decode b_MO_addPiece 0 = .ok (.aload_n 0, 1) := by decide +kernel
theorem d_MO_addPiece_1 : decode b_MO_addPiece 1 = .ok (.getfield 214, 3) := by decide +kernel
theorem d_MO_addPiece_4 : decode b_MO_addPiece 4 = .ok (.iconst 2, 1) := by decide +kernel
theorem d_MO_addPiece_5 : decode b_MO_addPiece 5 = .ok (.aload_n 0, 1) := by decide +kernel
theorem d_MO_addPiece_6 : decode b_MO_addPiece 6 = .ok (.getfield 588, 3) := by decide +kernel
theorem d_MO_addPiece_9 : decode b_MO_addPiece 9 = .ok (.imul, 1) := by decide +kernel
theorem d_MO_addPiece_10 : decode b_MO_addPiece 10 = .ok (.iload_n 1, 1) := by decide +kernel
theorem d_MO_addPiece_11 : decode b_MO_addPiece 11 = .ok (.iastore, 1) := by decide +kernel
theorem d_MO_addPiece_12 : decode b_MO_addPiece 12 = .ok (.aload_n 0, 1) := by decide +kernel
theorem d_MO_addPiece_13 : decode b_MO_addPiece 13 = .ok (.getfield 214, 3) := by decide +kernel
theorem d_MO_addPiece_16 : decode b_MO_addPiece 16 = .ok (.iconst 2, 1) := by decide +kernel
theorem d_MO_addPiece_17 : decode b_MO_addPiece 17 = .ok (.aload_n 0, 1) := by decide +kernel
theorem d_MO_addPiece_18 : decode b_MO_addPiece 18 = .ok (.getfield 588, 3) := by decide +kernel
theorem d_MO_addPiece_21 : decode b_MO_addPiece 21 = .ok (.imul, 1) := by decide +kernel
theorem d_MO_addPiece_22 : decode b_MO_addPiece 22 = .ok (.iconst 1, 1) := by decide +kernel
theorem d_MO_addPiece_23 : decode b_MO_addPiece 23 = .ok (.iadd, 1) := by decide +kernel
theorem d_MO_addPiece_24 : decode b_MO_addPiece 24 = .ok (.iload_n 2, 1) := by decide +kernel
theorem d_MO_addPiece_25 : decode b_MO_addPiece 25 = .ok (.iastore, 1) := by decide +kernel
theorem d_MO_addPiece_26 : decode b_MO_addPiece 26 = .ok (.aload_n 0, 1) := by decide +kernel
theorem d_MO_addPiece_27 : decode b_MO_addPiece 27 = .ok (.dup, 1) := by decide +kernel
theorem d_MO_addPiece_28 : decode b_MO_addPiece 28 = .ok (.getfield 588, 3) := by decide +kernel
theorem d_MO_addPiece_31 : decode b_MO_addPiece 31 = .ok (.iconst 1, 1) := by decide +kernel
theorem d_MO_addPiece_32 : decode b_MO_addPiece 32 = .ok (.iadd, 1) := by decide +kernel
theorem d_MO_addPiece_33 : decode b_MO_addPiece 33 = .ok (.putfield 588, 3) := by decide +kernel
theorem d_MO_addPiece_36 : decode b_MO_addPiece 36 = .ok (.return_, 1) := by decide +kernel
theorem d_MO_all_0 : decode b_MO_all 0 = .ok (.aload_n 0, 1) := by decide +kernel
theorem d_MO_all_1 : decode b_MO_all 1 = .ok (.aload_n 0, 1) := by decide +kernel
theorem d_MO_all_2 : decode b_MO_all 2 = .ok (.iload_n 1, 1) := by decide +kernel
theorem d_MO_all_3 : decode b_MO_all 3 = .ok (.invokevirtual 507, 3) := by decide +kernel
theorem d_MO_all_6 : decode b_MO_all 6 = .ok (.ifCond .eq 7, 3) := by decide +kernel
theorem d_MO_all_9 : decode b_MO_all 9 = .ok (.iconst 0, 1) := by decide +kernel
theorem d_MO_all_10 : decode b_MO_all 10 = .ok (.goto 4, 3) := by decide +kernel
theorem d_MO_all_13 : decode b_MO_all 13 = .ok (.iconst 1, 1) := by decide +kernel
theorem d_MO_all_14 : decode b_MO_all 14 = .ok (.putfield 220, 3) := by decide +kernel
theorem d_MO_all_17 : decode b_MO_all 17 = .ok (.aload_n 0, 1) := by decide +kernel
theorem d_MO_all_18 : decode b_MO_all 18 = .ok (.getfield 220, 3) := by decide +kernel
theorem d_MO_all_21 : decode b_MO_all 21 = .ok (.ifCond .le 5, 3) := by decide +kernel
theorem d_MO_all_24 : decode b_MO_all 24 = .ok (.iconst 0, 1) := by decide +kernel
theorem d_MO_all_25 : decode b_MO_all 25 = .ok (.ireturn, 1) := by decide +kernel
theorem d_MO_all_26 : decode b_MO_all 26 = .ok (.aload_n 0, 1) := by decide +kernel
theorem d_MO_all_27 : decode b_MO_all 27 = .ok (.iconst 0, 1) := by decide +kernel
theorem d_MO_all_28 : decode b_MO_all 28 = .ok (.putfield 579, 3) := by decide +kernel
theorem d_MO_all_31 : decode b_MO_all 31 = .ok (.aload_n 0, 1) := by decide +kernel
theorem d_MO_all_32 : decode b_MO_all 32 = .ok (.iload_n 1, 1) := by decide +kernel
theorem d_MO_all_33 : decode b_MO_all 33 = .ok (.invokevirtual 582, 3) := by decide +kernel
theorem d_MO_all_36 : decode b_MO_all 36 = .ok (.aload_n 0, 1) := by decide +kernel
theorem d_MO_all_37 : decode b_MO_all 37 = .ok (.iload_n 1, 1) := by decide +kernel
theorem d_MO_all_38 : decode b_MO_all 38 = .ok (.invokevirtual 585, 3) := by decide +kernel
theorem d_MO_all_41 : decode b_MO_all 41 = .ok (.ifCond .eq 52, 3) := by decide +kernel
theorem d_MO_all_44 : decode b_MO_all 44 = .ok (.aload_n 0, 1) := by decide +kernel
theorem d_MO_all_45 : decode b_MO_all 45 = .ok (.getfield 211, 3) := by decide +kernel
theorem d_MO_all_48 : decode b_MO_all 48 = .ok (.iconst 2, 1) := by decide +kernel
theorem d_MO_all_49 : decode b_MO_all 49 = .ok (.aload_n 0, 1) := by decide +kernel
theorem d_MO_all_50 : decode b_MO_all 50 = .ok (.getfield 579, 3) := by decide +kernel
theorem d_MO_all_53 : decode b_MO_all 53 = .ok (.imul, 1) := by decide +kernel
theorem d_MO_all_54 : decode b_MO_all 54 = .ok (.aload_n 0, 1) := by decide +kernel
theorem d_MO_all_55 : decode b_MO_all 55 = .ok (.getfield 190, 3) := by decide +kernel
theorem d_MO_all_58 : decode b_MO_all 58 = .ok (.iconst 0, 1) := by decide +kernel
theorem d_MO_all_59 : decode b_MO_all 59 = .ok (.iaload, 1) := by decide +kernel
theorem d_MO_all_60 : decode b_MO_all 60 = .ok (.iastore, 1) := by decide +kernel
theorem d_MO_all_61 : decode b_MO_all 61 = .ok (.aload_n 0, 1) := by decide +kernel
theorem d_MO_all_62 : decode b_MO_all 62 = .ok (.getfield 211, 3) := by decide +kernel
theorem d_MO_all_65 : decode b_MO_all 65 = .ok (.iconst 2, 1) := by decide +kernel
theorem d_MO_all_66 : decode b_MO_all 66 = .ok (.aload_n 0, 1) := by decide +kernel
theorem d_MO_all_67 : decode b_MO_all 67 = .ok (.getfield 579, 3) := by decide +kernel
theorem d_MO_all_70 : decode b_MO_all 70 = .ok (.imul, 1) := by decide +kernel
theorem d_MO_all_71 : decode b_MO_all 71 = .ok (.iconst 1, 1) := by decide +kernel
theorem d_MO_all_72 : decode b_MO_all 72 = .ok (.iadd, 1) := by decide +kernel
theorem d_MO_all_73 : decode b_MO_all 73 = .ok (.aload_n 0, 1) := by decide +kernel
theorem d_MO_all_74 : decode b_MO_all 74 = .ok (.getfield 190, 3) := by decide +kernel
theorem d_MO_all_77 : decode b_MO_all 77 = .ok (.iconst 1, 1) := by decide +kernel
theorem d_MO_all_78 : decode b_MO_all 78 = .ok (.iaload, 1) := by decide +kernel
theorem d_MO_all_79 : decode b_MO_all 79 = .ok (.iastore, 1) := by decide +kernel
theorem d_MO_all_80 : decode b_MO_all 80 = .ok (.aload_n 0, 1) := by decide +kernel
theorem d_MO_all_81 : decode b_MO_all 81 = .ok (.dup, 1) := by decide +kernel
theorem d_MO_all_82 : decode b_MO_all 82 = .ok (.getfield 579, 3) := by decide +kernel
theorem d_MO_all_85 : decode b_MO_all 85 = .ok (.iconst 1, 1) := by decide +kernel
theorem d_MO_all_86 : decode b_MO_all 86 = .ok (.iadd, 1) := by decide +kernel
theorem d_MO_all_87 : decode b_MO_all 87 = .ok (.putfield 579, 3) := by decide +kernel
theorem d_MO_all_90 : decode b_MO_all 90 = .ok (.goto (-54), 3) := by decide +kernel
theorem d_MO_all_93 : decode b_MO_all 93 = .ok (.aload_n 0, 1) := by decide +kernel
theorem d_MO_all_94 : decode b_MO_all 94 = .ok (.getfield 579, 3) := by decide +kernel
theorem d_MO_all_97 : decode b_MO_all 97 = .ok (.ireturn, 1) := by decide +kernel
theorem d_MO_groupAt_0 : decode b_MO_groupAt 0 = .ok (.aload_n 0, 1) := by decide +kernel
theorem d_MO_groupAt_1 : decode b_MO_groupAt 1 = .ok (.getfield 19, 3) := by decide +kernel
theorem d_MO_groupAt_4 : decode b_MO_groupAt 4 = .ok (.iload_n 3, 1) := by decide +kernel
theorem d_MO_groupAt_5 : decode b_MO_groupAt 5 = .ok (.iload_n 2, 1) := by decide +kernel
theorem d_MO_groupAt_6 : decode b_MO_groupAt 6 = .ok (.iconst 1, 1) := by decide +kernel
theorem d_MO_groupAt_7 : decode b_MO_groupAt 7 = .ok (.iadd, 1) := by decide +kernel
theorem d_MO_groupAt_8 : decode b_MO_groupAt 8 = .ok (.invokestatic 229, 3) := by decide +kernel
theorem d_MO_groupAt_11 : decode b_MO_groupAt 11 = .ok (.istore 4, 2) := by decide +kernel
theorem d_MO_groupAt_13 : decode b_MO_groupAt 13 = .ok (.aload_n 0, 1) := by decide +kernel
theorem d_MO_groupAt_14 : decode b_MO_groupAt 14 = .ok (.iconst 2, 1) := by decide +kernel
theorem d_MO_groupAt_15 : decode b_MO_groupAt 15 = .ok (.putfield 603, 3) := by decide +kernel
theorem d_MO_groupAt_18 : decode b_MO_groupAt 18 = .ok (.iload_n 2, 1) := by decide +kernel
theorem d_MO_groupAt_19 : decode b_MO_groupAt 19 = .ok (.iconst 1, 1) := by decide +kernel
theorem d_MO_groupAt_20 : decode b_MO_groupAt 20 = .ok (.iadd, 1) := by decide +kernel
theorem d_MO_groupAt_21 : decode b_MO_groupAt 21 = .ok (.iload_n 3, 1) := by decide +kernel
theorem d_MO_groupAt_22 : decode b_MO_groupAt 22 = .ok (.if_icmp .lt 5, 3) := by decide +kernel
theorem d_MO_groupAt_25 : decode b_MO_groupAt 25 = .ok (.iconst (-1), 1) := by decide +kernel
theorem d_MO_groupAt_26 : decode b_MO_groupAt 26 = .ok (.ireturn, 1) := by decide +kernel
theorem d_MO_groupAt_27 : decode b_MO_groupAt 27 = .ok (.iload 4, 2) := by decide +kernel
theorem d_MO_groupAt_29 : decode b_MO_groupAt 29 = .ok (.bipush 36, 2) := by decide +kernel
theorem d_MO_groupAt_31 : decode b_MO_groupAt 31 = .ok (.if_icmp .ne 6, 3) := by decide +kernel
theorem d_MO_groupAt_34 : decode b_MO_groupAt 34 = .ok (.bipush 100, 2) := by decide +kernel
theorem d_MO_groupAt_36 : decode b_MO_groupAt 36 = .ok (.ireturn, 1) := by decide +kernel
theorem d_MO_groupAt_37 : decode b_MO_groupAt 37 = .ok (.iload 4, 2) := by decide +kernel
theorem d_MO_groupAt_39 : decode b_MO_groupAt 39 = .ok (.bipush 48, 2) := by decide +kernel
theorem d_MO_groupAt_41 : decode b_MO_groupAt 41 = .ok (.if_icmp .lt 34, 3) := by decide +kernel
theorem d_MO_groupAt_44 : decode b_MO_groupAt 44 = .ok (.iload 4, 2) := by decide +kernel
theorem d_MO_groupAt_46 : decode b_MO_groupAt 46 = .ok (.bipush 57, 2) := by decide +kernel
theorem d_MO_groupAt_48 : decode b_MO_groupAt 48 = .ok (.if_icmp .gt 27, 3) := by decide +kernel
theorem d_MO_groupAt_51 : decode b_MO_groupAt 51 = .ok (.iload 4, 2) := by decide +kernel
theorem d_MO_groupAt_53 : decode b_MO_groupAt 53 = .ok (.bipush 48, 2) := by decide +kernel
theorem d_MO_groupAt_55 : decode b_MO_groupAt 55 = .ok (.isub, 1) := by decide +kernel
theorem d_MO_groupAt_56 : decode b_MO_groupAt 56 = .ok (.aload_n 0, 1) := by decide +kernel
theorem d_MO_groupAt_57 : decode b_MO_groupAt 57 = .ok (.getfield 115, 3) := by decide +kernel
theorem d_MO_groupAt_60 : decode b_MO_groupAt 60 = .ok (.iload_n 1, 1) := by decide +kernel
theorem d_MO_groupAt_61 : decode b_MO_groupAt 61 = .ok (.iaload, 1) := by decide +kernel
theorem d_MO_groupAt_62 : decode b_MO_groupAt 62 = .ok (.if_icmp .gt 11, 3) := by decide +kernel
theorem d_MO_groupAt_65 : decode b_MO_groupAt 65 = .ok (.iload 4, 2) := by decide +kernel
theorem d_MO_groupAt_67 : decode b_MO_groupAt 67 = .ok (.bipush 48, 2) := by decide +kernel
theorem d_MO_groupAt_69 : decode b_MO_groupAt 69 = .ok (.isub, 1) := by decide +kernel
theorem d_MO_groupAt_70 : decode b_MO_groupAt 70 = .ok (.goto 4, 3) := by decide +kernel
theorem d_MO_groupAt_73 : decode b_MO_groupAt 73 = .ok (.iconst (-1), 1) := by decide +kernel
theorem d_MO_groupAt_74 : decode b_MO_groupAt 74 = .ok (.ireturn, 1) := by decide +kernel
theorem d_MO_groupAt_75 : decode b_MO_groupAt 75 = .ok (.iload 4, 2) := by decide +kernel
theorem d_MO_groupAt_77 : decode b_MO_groupAt 77 = .ok (.bipush 123, 2) := by decide +kernel
theorem d_MO_groupAt_79 : decode b_MO_groupAt 79 = .ok (.if_icmp .eq 5, 3) := by decide +kernel
theorem d_MO_groupAt_82 : decode b_MO_groupAt 82 = .ok (.iconst (-1), 1) := by decide +kernel
theorem d_MO_groupAt_83 : decode b_MO_groupAt 83 = .ok (.ireturn, 1) := by decide +kernel
theorem d_MO_groupAt_84 : decode b_MO_groupAt 84 = .ok (.iconst 0, 1) := by decide +kernel
theorem d_MO_groupAt_85 : decode b_MO_groupAt 85 = .ok (.istore 5, 2) := by decide +kernel
theorem d_MO_groupAt_87 : decode b_MO_groupAt 87 = .ok (.iload_n 2, 1) := by decide +kernel
theorem d_MO_groupAt_88 : decode b_MO_groupAt 88 = .ok (.iconst 2, 1) := by decide +kernel
theorem d_MO_groupAt_89 : decode b_MO_groupAt 89 = .ok (.iadd, 1) := by decide +kernel
theorem d_MO_groupAt_90 : decode b_MO_groupAt 90 = .ok (.iload 5, 2) := by decide +kernel
theorem d_MO_groupAt_92 : decode b_MO_groupAt 92 = .ok (.iadd, 1) := by decide +kernel
theorem d_MO_groupAt_93 : decode b_MO_groupAt 93 = .ok (.iload_n 3, 1) := by decide +kernel
theorem d_MO_groupAt_94 : decode b_MO_groupAt 94 = .ok (.if_icmp .ge 25, 3) := by decide +kernel
theorem d_MO_groupAt_97 : decode b_MO_groupAt 97 = .ok (.aload_n 0, 1) := by decide +kernel
theorem d_MO_groupAt_98 : decode b_MO_groupAt 98 = .ok (.getfield 19, 3) := by decide +kernel
theorem d_MO_groupAt_101 : decode b_MO_groupAt 101 = .ok (.iload_n 2, 1) := by decide +kernel
theorem d_MO_groupAt_102 : decode b_MO_groupAt 102 = .ok (.iconst 2, 1) := by decide +kernel
theorem d_MO_groupAt_103 : decode b_MO_groupAt 103 = .ok (.iadd, 1) := by decide +kernel
theorem d_MO_groupAt_104 : decode b_MO_groupAt 104 = .ok (.iload 5, 2) := by decide +kernel
theorem d_MO_groupAt_106 : decode b_MO_groupAt 106 = .ok (.iadd, 1) := by decide +kernel
theorem d_MO_groupAt_107 : decode b_MO_groupAt 107 = .ok (.iaload, 1) := by decide +kernel
theorem d_MO_groupAt_108 : decode b_MO_groupAt 108 = .ok (.bipush 125, 2) := by decide +kernel
theorem d_MO_groupAt_110 : decode b_MO_groupAt 110 = .ok (.if_icmp .eq 9, 3) := by decide +kernel
theorem d_MO_groupAt_113 : decode b_MO_groupAt 113 = .ok (.iinc 5 1, 3) := by decide +kernel
theorem d_MO_groupAt_116 : decode b_MO_groupAt 116 = .ok (.goto (-29), 3) := by decide +kernel
theorem d_MO_groupAt_119 : decode b_MO_groupAt 119 = .ok (.aload_n 0, 1) := by decide +kernel
theorem d_MO_groupAt_120 : decode b_MO_groupAt 120 = .ok (.iconst 3, 1) := by decide +kernel
theorem d_MO_groupAt_121 : decode b_MO_groupAt 121 = .ok (.iload 5, 2) := by decide +kernel
theorem d_MO_groupAt_123 : decode b_MO_groupAt 123 = .ok (.iadd, 1) := by decide +kernel
theorem d_MO_groupAt_124 : decode b_MO_groupAt 124 = .ok (.putfield 603, 3) := by decide +kernel
theorem d_MO_groupAt_127 : decode b_MO_groupAt 127 = .ok (.iload_n 2, 1) := by decide +kernel
theorem d_MO_groupAt_128 : decode b_MO_groupAt 128 = .ok (.iconst 2, 1) := by decide +kernel
theorem d_MO_groupAt_129 : decode b_MO_groupAt 129 = .ok (.iadd, 1) := by decide +kernel
theorem d_MO_groupAt_130 : decode b_MO_groupAt 130 = .ok (.iload 5, 2) := by decide +kernel
theorem d_MO_groupAt_132 : decode b_MO_groupAt 132 = .ok (.iadd, 1) := by decide +kernel
theorem d_MO_groupAt_133 : decode b_MO_groupAt 133 = .ok (.iload_n 3, 1) := by decide +kernel
theorem d_MO_groupAt_134 : decode b_MO_groupAt 134 = .ok (.if_icmp .lt 5, 3) := by decide +kernel
theorem d_MO_groupAt_137 : decode b_MO_groupAt 137 = .ok (.iconst (-1), 1) := by decide +kernel
theorem d_MO_groupAt_138 : decode b_MO_groupAt 138 = .ok (.ireturn, 1) := by decide +kernel
theorem d_MO_groupAt_139 : decode b_MO_groupAt 139 = .ok (.iconst 1, 1) := by decide +kernel
theorem d_MO_groupAt_140 : decode b_MO_groupAt 140 = .ok (.istore 6, 2) := by decide +kernel
theorem d_MO_groupAt_142 : decode b_MO_groupAt 142 = .ok (.iload 6, 2) := by decide +kernel
theorem d_MO_groupAt_144 : decode b_MO_groupAt 144 = .ok (.aload_n 0, 1) := by decide +kernel
theorem d_MO_groupAt_145 : decode b_MO_groupAt 145 = .ok (.getfield 115, 3) := by decide +kernel
theorem d_MO_groupAt_148 : decode b_MO_groupAt 148 = .ok (.iload_n 1, 1) := by decide +kernel
theorem d_MO_groupAt_149 : decode b_MO_groupAt 149 = .ok (.iaload, 1) := by decide +kernel
theorem d_MO_groupAt_150 : decode b_MO_groupAt 150 = .ok (.if_icmp .gt 106, 3) := by decide +kernel
theorem d_MO_groupAt_153 : decode b_MO_groupAt 153 = .ok (.iload 5, 2) := by decide +kernel
theorem d_MO_groupAt_155 : decode b_MO_groupAt 155 = .ok (.ifCond .le 24, 3) := by decide +kernel
theorem d_MO_groupAt_158 : decode b_MO_groupAt 158 = .ok (.aload_n 0, 1) := by decide +kernel
theorem d_MO_groupAt_159 : decode b_MO_groupAt 159 = .ok (.getfield 155, 3) := by decide +kernel
theorem d_MO_groupAt_162 : decode b_MO_groupAt 162 = .ok (.bipush 10, 2) := by decide +kernel
theorem d_MO_groupAt_164 : decode b_MO_groupAt 164 = .ok (.iload_n 1, 1) := by decide +kernel
theorem d_MO_groupAt_165 : decode b_MO_groupAt 165 = .ok (.imul, 1) := by decide +kernel
theorem d_MO_groupAt_166 : decode b_MO_groupAt 166 = .ok (.iload 6, 2) := by decide +kernel
theorem d_MO_groupAt_168 : decode b_MO_groupAt 168 = .ok (.iadd, 1) := by decide +kernel
theorem d_MO_groupAt_169 : decode b_MO_groupAt 169 = .ok (.iaload, 1) := by decide +kernel
theorem d_MO_groupAt_170 : decode b_MO_groupAt 170 = .ok (.iload 5, 2) := by decide +kernel
theorem d_MO_groupAt_172 : decode b_MO_groupAt 172 = .ok (.if_icmp .ne 7, 3) := by decide +kernel
theorem d_MO_groupAt_175 : decode b_MO_groupAt 175 = .ok (.iconst 1, 1) := by decide +kernel
theorem d_MO_groupAt_176 : decode b_MO_groupAt 176 = .ok (.goto 4, 3) := by decide +kernel
theorem d_MO_groupAt_179 : decode b_MO_groupAt 179 = .ok (.iconst 0, 1) := by decide +kernel
theorem d_MO_groupAt_180 : decode b_MO_groupAt 180 = .ok (.istore 7, 2) := by decide +kernel
theorem d_MO_groupAt_182 : decode b_MO_groupAt 182 = .ok (.iconst 0, 1) := by decide +kernel
theorem d_MO_groupAt_183 : decode b_MO_groupAt 183 = .ok (.istore 8, 2) := by decide +kernel
theorem d_MO_groupAt_185 : decode b_MO_groupAt 185 = .ok (.iload 8, 2) := by decide +kernel
theorem d_MO_groupAt_187 : decode b_MO_groupAt 187 = .ok (.iload 5, 2) := by decide +kernel
theorem d_MO_groupAt_189 : decode b_MO_groupAt 189 = .ok (.if_icmp .ge 53, 3) := by decide +kernel
theorem d_MO_groupAt_192 : decode b_MO_groupAt 192 = .ok (.iload 7, 2) := by decide +kernel
theorem d_MO_groupAt_194 : decode b_MO_groupAt 194 = .ok (.ifCond .eq 48, 3) := by decide +kernel
theorem d_MO_groupAt_197 : decode b_MO_groupAt 197 = .ok (.aload_n 0, 1) := by decide +kernel
theorem d_MO_groupAt_198 : decode b_MO_groupAt 198 = .ok (.getfield 152, 3) := by decide +kernel
theorem d_MO_groupAt_201 : decode b_MO_groupAt 201 = .ok (.bipush 120, 2) := by decide +kernel
theorem d_MO_groupAt_203 : decode b_MO_groupAt 203 = .ok (.iload_n 1, 1) := by decide +kernel
theorem d_MO_groupAt_204 : decode b_MO_groupAt 204 = .ok (.imul, 1) := by decide +kernel
theorem d_MO_groupAt_205 : decode b_MO_groupAt 205 = .ok (.bipush 12, 2) := by decide +kernel
theorem d_MO_groupAt_207 : decode b_MO_groupAt 207 = .ok (.iload 6, 2) := by decide +kernel
theorem d_MO_groupAt_209 : decode b_MO_groupAt 209 = .ok (.imul, 1) := by decide +kernel
theorem d_MO_groupAt_210 : decode b_MO_groupAt 210 = .ok (.iadd, 1) := by decide +kernel
theorem d_MO_groupAt_211 : decode b_MO_groupAt 211 = .ok (.iload 8, 2) := by decide +kernel
theorem d_MO_groupAt_213 : decode b_MO_groupAt 213 = .ok (.iadd, 1) := by decide +kernel
theorem d_MO_groupAt_214 : decode b_MO_groupAt 214 = .ok (.iaload, 1) := by decide +kernel
theorem d_MO_groupAt_215 : decode b_MO_groupAt 215 = .ok (.aload_n 0, 1) := by decide +kernel
theorem d_MO_groupAt_216 : decode b_MO_groupAt 216 = .ok (.getfield 19, 3) := by decide +kernel
theorem d_MO_groupAt_219 : decode b_MO_groupAt 219 = .ok (.iload_n 2, 1) := by decide +kernel
theorem d_MO_groupAt_220 : decode b_MO_groupAt 220 = .ok (.iconst 2, 1) := by decide +kernel
theorem d_MO_groupAt_221 : decode b_MO_groupAt 221 = .ok (.iadd, 1) := by decide +kernel
theorem d_MO_groupAt_222 : decode b_MO_groupAt 222 = .ok (.iload 8, 2) := by decide +kernel
theorem d_MO_groupAt_224 : decode b_MO_groupAt 224 = .ok (.iadd, 1) := by decide +kernel
theorem d_MO_groupAt_225 : decode b_MO_groupAt 225 = .ok (.iaload, 1) := by decide +kernel
theorem d_MO_groupAt_226 : decode b_MO_groupAt 226 = .ok (.if_icmp .ne 7, 3) := by decide +kernel
theorem d_MO_groupAt_229 : decode b_MO_groupAt 229 = .ok (.iconst 1, 1) := by decide +kernel
theorem d_MO_groupAt_230 : decode b_MO_groupAt 230 = .ok (.goto 4, 3) := by decide +kernel
theorem d_MO_groupAt_233 : decode b_MO_groupAt 233 = .ok (.iconst 0, 1) := by decide +kernel
theorem d_MO_groupAt_234 : decode b_MO_groupAt 234 = .ok (.istore 7, 2) := by decide +kernel
theorem d_MO_groupAt_236 : decode b_MO_groupAt 236 = .ok (.iinc 8 1, 3) := by decide +kernel
theorem d_MO_groupAt_239 : decode b_MO_groupAt 239 = .ok (.goto (-54), 3) := by decide +kernel
theorem d_MO_groupAt_242 : decode b_MO_groupAt 242 = .ok (.iload 7, 2) := by decide +kernel
theorem d_MO_groupAt_244 : decode b_MO_groupAt 244 = .ok (.ifCond .eq 6, 3) := by decide +kernel
theorem d_MO_groupAt_247 : decode b_MO_groupAt 247 = .ok (.iload 6, 2) := by decide +kernel
theorem d_MO_groupAt_249 : decode b_MO_groupAt 249 = .ok (.ireturn, 1) := by decide +kernel
theorem d_MO_groupAt_250 : decode b_MO_groupAt 250 = .ok (.iinc 6 1, 3) := by decide +kernel
theorem d_MO_groupAt_253 : decode b_MO_groupAt 253 = .ok (.goto (-111), 3) := by decide +kernel
theorem d_MO_groupAt_256 : decode b_MO_groupAt 256 = .ok (.iconst (-1), 1) := by decide +kernel
theorem d_MO_groupAt_257 : decode b_MO_groupAt 257 = .ok (.ireturn, 1) := by decide +kernel
theorem d_MO_isTemplate_0 : decode b_MO_isTemplate 0 = .ok (.iconst 1, 1) := by decide +kernel
theorem d_MO_isTemplate_1 : decode b_MO_isTemplate 1 = .ok (.istore_n 3, 1) := by decide +kernel
theorem d_MO_isTemplate_2 : decode b_MO_isTemplate 2 = .ok (.iconst 0, 1) := by decide +kernel
theorem d_MO_isTemplate_3 : decode b_MO_isTemplate 3 = .ok (.istore 4, 2) := by decide +kernel
theorem d_MO_isTemplate_5 : decode b_MO_isTemplate 5 = .ok (.iload 4, 2) := by decide +kernel
theorem d_MO_isTemplate_7 : decode b_MO_isTemplate 7 = .ok (.iload_n 2, 1) := by decide +kernel
theorem d_MO_isTemplate_8 : decode b_MO_isTemplate 8 = .ok (.if_icmp .ge 56, 3) := by decide +kernel
theorem d_MO_isTemplate_11 : decode b_MO_isTemplate 11 = .ok (.iload_n 3, 1) := by decide +kernel
theorem d_MO_isTemplate_12 : decode b_MO_isTemplate 12 = .ok (.ifCond .eq 52, 3) := by decide +kernel
theorem d_MO_isTemplate_15 : decode b_MO_isTemplate 15 = .ok (.aload_n 0, 1) := by decide +kernel
theorem d_MO_isTemplate_16 : decode b_MO_isTemplate 16 = .ok (.getfield 19, 3) := by decide +kernel
theorem d_MO_isTemplate_19 : decode b_MO_isTemplate 19 = .ok (.iload 4, 2) := by decide +kernel
theorem d_MO_isTemplate_21 : decode b_MO_isTemplate 21 = .ok (.iaload, 1) := by decide +kernel
theorem d_MO_isTemplate_22 : decode b_MO_isTemplate 22 = .ok (.bipush 36, 2) := by decide +kernel
theorem d_MO_isTemplate_24 : decode b_MO_isTemplate 24 = .ok (.if_icmp .eq 6, 3) := by decide +kernel
theorem d_MO_isTemplate_27 : decode b_MO_isTemplate 27 = .ok (.goto 31, 3) := by decide +kernel
theorem d_MO_isTemplate_30 : decode b_MO_isTemplate 30 = .ok (.aload_n 0, 1) := by decide +kernel
theorem d_MO_isTemplate_31 : decode b_MO_isTemplate 31 = .ok (.iload_n 1, 1) := by decide +kernel
theorem d_MO_isTemplate_32 : decode b_MO_isTemplate 32 = .ok (.iload 4, 2) := by decide +kernel
theorem d_MO_isTemplate_34 : decode b_MO_isTemplate 34 = .ok (.iload_n 2, 1) := by decide +kernel
theorem d_MO_isTemplate_35 : decode b_MO_isTemplate 35 = .ok (.invokevirtual 606, 3) := by decide +kernel
theorem d_MO_isTemplate_38 : decode b_MO_isTemplate 38 = .ok (.ifCond .lt 7, 3) := by decide +kernel
theorem d_MO_isTemplate_41 : decode b_MO_isTemplate 41 = .ok (.iconst 1, 1) := by decide +kernel
theorem d_MO_isTemplate_42 : decode b_MO_isTemplate 42 = .ok (.goto 4, 3) := by decide +kernel
theorem d_MO_isTemplate_45 : decode b_MO_isTemplate 45 = .ok (.iconst 0, 1) := by decide +kernel
theorem d_MO_isTemplate_46 : decode b_MO_isTemplate 46 = .ok (.istore_n 3, 1) := by decide +kernel
theorem d_MO_isTemplate_47 : decode b_MO_isTemplate 47 = .ok (.iload 4, 2) := by decide +kernel
theorem d_MO_isTemplate_49 : decode b_MO_isTemplate 49 = .ok (.aload_n 0, 1) := by decide +kernel
theorem d_MO_isTemplate_50 : decode b_MO_isTemplate 50 = .ok (.getfield 603, 3) := by decide +kernel
theorem d_MO_isTemplate_53 : decode b_MO_isTemplate 53 = .ok (.iconst 1, 1) := by decide +kernel
theorem d_MO_isTemplate_54 : decode b_MO_isTemplate 54 = .ok (.isub, 1) := by decide +kernel
theorem d_MO_isTemplate_55 : decode b_MO_isTemplate 55 = .ok (.iadd, 1) := by decide +kernel
theorem d_MO_isTemplate_56 : decode b_MO_isTemplate 56 = .ok (.istore 4, 2) := by decide +kernel
theorem d_MO_isTemplate_58 : decode b_MO_isTemplate 58 = .ok (.iinc 4 1, 3) := by decide +kernel
theorem d_MO_isTemplate_61 : decode b_MO_isTemplate 61 = .ok (.goto (-56), 3) := by decide +kernel
theorem d_MO_isTemplate_64 : decode b_MO_isTemplate 64 = .ok (.iload_n 3, 1) := by decide +kernel
theorem d_MO_isTemplate_65 : decode b_MO_isTemplate 65 = .ok (.ireturn, 1) := by decide +kernel
theorem d_MO_match_0 : decode b_MO_match 0 = .ok (.aload_n 0, 1) := by decide +kernel
theorem d_MO_match_1 : decode b_MO_match 1 = .ok (.aload_n 0, 1) := by decide +kernel
theorem d_MO_match_2 : decode b_MO_match 2 = .ok (.iload_n 1, 1) := by decide +kernel
theorem d_MO_match_3 : decode b_MO_match 3 = .ok (.invokevirtual 507, 3) := by decide +kernel
theorem d_MO_match_6 : decode b_MO_match 6 = .ok (.ifCond .eq 35, 3) := by decide +kernel
theorem d_MO_match_9 : decode b_MO_match 9 = .ok (.iload_n 2, 1) := by decide +kernel
theorem d_MO_match_10 : decode b_MO_match 10 = .ok (.ifCond .lt 31, 3) := by decide +kernel
theorem d_MO_match_13 : decode b_MO_match 13 = .ok (.iload_n 2, 1) := by decide +kernel
theorem d_MO_match_14 : decode b_MO_match 14 = .ok (.iconst 2, 1) := by decide +kernel
theorem d_MO_match_15 : decode b_MO_match 15 = .ok (.if_icmp .gt 26, 3) := by decide +kernel
theorem d_MO_match_18 : decode b_MO_match 18 = .ok (.iload_n 3, 1) := by decide +kernel
theorem d_MO_match_19 : decode b_MO_match 19 = .ok (.ifCond .lt 22, 3) := by decide +kernel
theorem d_MO_match_22 : decode b_MO_match 22 = .ok (.iload_n 3, 1) := by decide +kernel
theorem d_MO_match_23 : decode b_MO_match 23 = .ok (.iconst 4, 1) := by decide +kernel
theorem d_MO_match_24 : decode b_MO_match 24 = .ok (.if_icmp .gt 17, 3) := by decide +kernel
theorem d_MO_match_27 : decode b_MO_match 27 = .ok (.iload 4, 2) := by decide +kernel
theorem d_MO_match_29 : decode b_MO_match 29 = .ok (.ifCond .lt 12, 3) := by decide +kernel
theorem d_MO_match_32 : decode b_MO_match 32 = .ok (.iload 4, 2) := by decide +kernel
theorem d_MO_match_34 : decode b_MO_match 34 = .ok (.aload_n 0, 1) := by decide +kernel
theorem d_MO_match_35 : decode b_MO_match 35 = .ok (.getfield 510, 3) := by decide +kernel
theorem d_MO_match_38 : decode b_MO_match 38 = .ok (.if_icmp .le 7, 3) := by decide +kernel
theorem d_MO_match_41 : decode b_MO_match 41 = .ok (.iconst 1, 1) := by decide +kernel
theorem d_MO_match_42 : decode b_MO_match 42 = .ok (.goto 4, 3) := by decide +kernel
theorem d_MO_match_45 : decode b_MO_match 45 = .ok (.iconst 0, 1) := by decide +kernel
theorem d_MO_match_46 : decode b_MO_match 46 = .ok (.putfield 220, 3) := by decide +kernel
theorem d_MO_match_49 : decode b_MO_match 49 = .ok (.aload_n 0, 1) := by decide +kernel
theorem d_MO_match_50 : decode b_MO_match 50 = .ok (.getfield 220, 3) := by decide +kernel
theorem d_MO_match_53 : decode b_MO_match 53 = .ok (.ifCond .le 5, 3) := by decide +kernel
theorem d_MO_match_56 : decode b_MO_match 56 = .ok (.iconst 0, 1) := by decide +kernel
theorem d_MO_match_57 : decode b_MO_match 57 = .ok (.ireturn, 1) := by decide +kernel
theorem d_MO_match_58 : decode b_MO_match 58 = .ok (.iload_n 2, 1) := by decide +kernel
theorem d_MO_match_59 : decode b_MO_match 59 = .ok (.iconst 2, 1) := by decide +kernel
theorem d_MO_match_60 : decode b_MO_match 60 = .ok (.if_icmp .ne 63, 3) := by decide +kernel
theorem d_MO_match_63 : decode b_MO_match 63 = .ok (.aload_n 0, 1) := by decide +kernel
theorem d_MO_match_64 : decode b_MO_match 64 = .ok (.aload_n 0, 1) := by decide +kernel
theorem d_MO_match_65 : decode b_MO_match 65 = .ok (.getfield 181, 3) := by decide +kernel
theorem d_MO_match_68 : decode b_MO_match 68 = .ok (.iload_n 1, 1) := by decide +kernel
theorem d_MO_match_69 : decode b_MO_match 69 = .ok (.aload_n 0, 1) := by decide +kernel
theorem d_MO_match_70 : decode b_MO_match 70 = .ok (.getfield 510, 3) := by decide +kernel
theorem d_MO_match_73 : decode b_MO_match 73 = .ok (.iload 4, 2) := by decide +kernel
theorem d_MO_match_75 : decode b_MO_match 75 = .ok (.iconst 1, 1) := by decide +kernel
theorem d_MO_match_76 : decode b_MO_match 76 = .ok (.invokevirtual 559, 3) := by decide +kernel
theorem d_MO_match_79 : decode b_MO_match 79 = .ok (.aload_n 0, 1) := by decide +kernel
theorem d_MO_match_80 : decode b_MO_match 80 = .ok (.aload_n 0, 1) := by decide +kernel
theorem d_MO_match_81 : decode b_MO_match 81 = .ok (.getfield 181, 3) := by decide +kernel
theorem d_MO_match_84 : decode b_MO_match 84 = .ok (.iload 4, 2) := by decide +kernel
theorem d_MO_match_86 : decode b_MO_match 86 = .ok (.aload_n 0, 1) := by decide +kernel
theorem d_MO_match_87 : decode b_MO_match 87 = .ok (.getfield 112, 3) := by decide +kernel
theorem d_MO_match_90 : decode b_MO_match 90 = .ok (.iload_n 1, 1) := by decide +kernel
theorem d_MO_match_91 : decode b_MO_match 91 = .ok (.iaload, 1) := by decide +kernel
theorem d_MO_match_92 : decode b_MO_match 92 = .ok (.invokestatic 528, 3) := by decide +kernel
theorem d_MO_match_95 : decode b_MO_match 95 = .ok (.putfield 563, 3) := by decide +kernel
theorem d_MO_match_98 : decode b_MO_match 98 = .ok (.aload_n 0, 1) := by decide +kernel
theorem d_MO_match_99 : decode b_MO_match 99 = .ok (.getfield 563, 3) := by decide +kernel
theorem d_MO_match_102 : decode b_MO_match 102 = .ok (.ifCond .eq 57, 3) := by decide +kernel
theorem d_MO_match_105 : decode b_MO_match 105 = .ok (.aload_n 0, 1) := by decide +kernel
theorem d_MO_match_106 : decode b_MO_match 106 = .ok (.aload_n 0, 1) := by decide +kernel
theorem d_MO_match_107 : decode b_MO_match 107 = .ok (.getfield 181, 3) := by decide +kernel
theorem d_MO_match_110 : decode b_MO_match 110 = .ok (.iload_n 1, 1) := by decide +kernel
theorem d_MO_match_111 : decode b_MO_match 111 = .ok (.iload 4, 2) := by decide +kernel
theorem d_MO_match_113 : decode b_MO_match 113 = .ok (.aload_n 0, 1) := by decide +kernel
theorem d_MO_match_114 : decode b_MO_match 114 = .ok (.getfield 510, 3) := by decide +kernel
theorem d_MO_match_117 : decode b_MO_match 117 = .ok (.invokevirtual 552, 3) := by decide +kernel
theorem d_MO_match_120 : decode b_MO_match 120 = .ok (.goto 39, 3) := by decide +kernel
theorem d_MO_match_123 : decode b_MO_match 123 = .ok (.aload_n 0, 1) := by decide +kernel
theorem d_MO_match_124 : decode b_MO_match 124 = .ok (.aload_n 0, 1) := by decide +kernel
theorem d_MO_match_125 : decode b_MO_match 125 = .ok (.getfield 178, 3) := by decide +kernel
theorem d_MO_match_128 : decode b_MO_match 128 = .ok (.iload_n 1, 1) := by decide +kernel
theorem d_MO_match_129 : decode b_MO_match 129 = .ok (.aload_n 0, 1) := by decide +kernel
theorem d_MO_match_130 : decode b_MO_match 130 = .ok (.getfield 510, 3) := by decide +kernel
theorem d_MO_match_133 : decode b_MO_match 133 = .ok (.iload 4, 2) := by decide +kernel
theorem d_MO_match_135 : decode b_MO_match 135 = .ok (.iconst 0, 1) := by decide +kernel
theorem d_MO_match_136 : decode b_MO_match 136 = .ok (.invokevirtual 559, 3) := by decide +kernel
theorem d_MO_match_139 : decode b_MO_match 139 = .ok (.aload_n 0, 1) := by decide +kernel
theorem d_MO_match_140 : decode b_MO_match 140 = .ok (.aload_n 0, 1) := by decide +kernel
theorem d_MO_match_141 : decode b_MO_match 141 = .ok (.iload_n 1, 1) := by decide +kernel
theorem d_MO_match_142 : decode b_MO_match 142 = .ok (.iload 4, 2) := by decide +kernel
theorem d_MO_match_144 : decode b_MO_match 144 = .ok (.iload_n 2, 1) := by decide +kernel
theorem d_MO_match_145 : decode b_MO_match 145 = .ok (.ifCond .ne 7, 3) := by decide +kernel
theorem d_MO_match_148 : decode b_MO_match 148 = .ok (.iconst 1, 1) := by decide +kernel
theorem d_MO_match_149 : decode b_MO_match 149 = .ok (.goto 4, 3) := by decide +kernel
theorem d_MO_match_152 : decode b_MO_match 152 = .ok (.iconst 0, 1) := by decide +kernel
theorem d_MO_match_153 : decode b_MO_match 153 = .ok (.invokevirtual 566, 3) := by decide +kernel
theorem d_MO_match_156 : decode b_MO_match 156 = .ok (.putfield 563, 3) := by decide +kernel
theorem d_MO_match_159 : decode b_MO_match 159 = .ok (.iconst 0, 1) := by decide +kernel
theorem d_MO_match_160 : decode b_MO_match 160 = .ok (.istore 5, 2) := by decide +kernel
theorem d_MO_match_162 : decode b_MO_match 162 = .ok (.iload 5, 2) := by decide +kernel
theorem d_MO_match_164 : decode b_MO_match 164 = .ok (.bipush 20, 2) := by decide +kernel
theorem d_MO_match_166 : decode b_MO_match 166 = .ok (.if_icmp .ge 23, 3) := by decide +kernel
theorem d_MO_match_169 : decode b_MO_match 169 = .ok (.aload_n 0, 1) := by decide +kernel
theorem d_MO_match_170 : decode b_MO_match 170 = .ok (.getfield 193, 3) := by decide +kernel
theorem d_MO_match_173 : decode b_MO_match 173 = .ok (.iload 5, 2) := by decide +kernel
theorem d_MO_match_175 : decode b_MO_match 175 = .ok (.aload_n 0, 1) := by decide +kernel
theorem d_MO_match_176 : decode b_MO_match 176 = .ok (.getfield 190, 3) := by decide +kernel
theorem d_MO_match_179 : decode b_MO_match 179 = .ok (.iload 5, 2) := by decide +kernel
theorem d_MO_match_181 : decode b_MO_match 181 = .ok (.iaload, 1) := by decide +kernel
theorem d_MO_match_182 : decode b_MO_match 182 = .ok (.iastore, 1) := by decide +kernel
theorem d_MO_match_183 : decode b_MO_match 183 = .ok (.iinc 5 1, 3) := by decide +kernel
theorem d_MO_match_186 : decode b_MO_match 186 = .ok (.goto (-24), 3) := by decide +kernel
theorem d_MO_match_189 : decode b_MO_match 189 = .ok (.aload_n 0, 1) := by decide +kernel
theorem d_MO_match_190 : decode b_MO_match 190 = .ok (.aload_n 0, 1) := by decide +kernel
theorem d_MO_match_191 : decode b_MO_match 191 = .ok (.getfield 115, 3) := by decide +kernel
theorem d_MO_match_194 : decode b_MO_match 194 = .ok (.iload_n 1, 1) := by decide +kernel
theorem d_MO_match_195 : decode b_MO_match 195 = .ok (.iaload, 1) := by decide +kernel
theorem d_MO_match_196 : decode b_MO_match 196 = .ok (.putfield 570, 3) := by decide +kernel
theorem d_MO_match_199 : decode b_MO_match 199 = .ok (.aload_n 0, 1) := by decide +kernel
theorem d_MO_match_200 : decode b_MO_match 200 = .ok (.getfield 563, 3) := by decide +kernel
theorem d_MO_match_203 : decode b_MO_match 203 = .ok (.ifCond .eq 12, 3) := by decide +kernel
theorem d_MO_match_206 : decode b_MO_match 206 = .ok (.aload_n 0, 1) := by decide +kernel
theorem d_MO_match_207 : decode b_MO_match 207 = .ok (.getfield 193, 3) := by decide +kernel
theorem d_MO_match_210 : decode b_MO_match 210 = .ok (.iconst 1, 1) := by decide +kernel
theorem d_MO_match_211 : decode b_MO_match 211 = .ok (.iaload, 1) := by decide +kernel
theorem d_MO_match_212 : decode b_MO_match 212 = .ok (.goto 4, 3) := by decide +kernel
theorem d_MO_match_215 : decode b_MO_match 215 = .ok (.iconst (-1), 1) := by decide +kernel
theorem d_MO_match_216 : decode b_MO_match 216 = .ok (.ireturn, 1) := by decide +kernel
theorem d_MO_replace_0 : decode b_MO_replace 0 = .ok (.aload_n 0, 1) := by decide +kernel
theorem d_MO_replace_1 : decode b_MO_replace 1 = .ok (.aload_n 0, 1) := by decide +kernel
theorem d_MO_replace_2 : decode b_MO_replace 2 = .ok (.iload_n 1, 1) := by decide +kernel
theorem d_MO_replace_3 : decode b_MO_replace 3 = .ok (.invokevirtual 507, 3) := by decide +kernel
theorem d_MO_replace_6 : decode b_MO_replace 6 = .ok (.ifCond .eq 7, 3) := by decide +kernel
theorem d_MO_replace_9 : decode b_MO_replace 9 = .ok (.iconst 0, 1) := by decide +kernel
theorem d_MO_replace_10 : decode b_MO_replace 10 = .ok (.goto 4, 3) := by decide +kernel
theorem d_MO_replace_13 : decode b_MO_replace 13 = .ok (.iconst 1, 1) := by decide +kernel
theorem d_MO_replace_14 : decode b_MO_replace 14 = .ok (.putfield 220, 3) := by decide +kernel
theorem d_MO_replace_17 : decode b_MO_replace 17 = .ok (.aload_n 0, 1) := by decide +kernel
theorem d_MO_replace_18 : decode b_MO_replace 18 = .ok (.getfield 220, 3) := by decide +kernel
theorem d_MO_replace_21 : decode b_MO_replace 21 = .ok (.ifCond .le 5, 3) := by decide +kernel
theorem d_MO_replace_24 : decode b_MO_replace 24 = .ok (.iconst 0, 1) := by decide +kernel
theorem d_MO_replace_25 : decode b_MO_replace 25 = .ok (.ireturn, 1) := by decide +kernel
theorem d_MO_replace_26 : decode b_MO_replace 26 = .ok (.aload_n 0, 1) := by decide +kernel
theorem d_MO_replace_27 : decode b_MO_replace 27 = .ok (.getfield 223, 3) := by decide +kernel
theorem d_MO_replace_30 : decode b_MO_replace 30 = .ok (.istore_n 2, 1) := by decide +kernel
theorem d_MO_replace_31 : decode b_MO_replace 31 = .ok (.aload_n 0, 1) := by decide +kernel
theorem d_MO_replace_32 : decode b_MO_replace 32 = .ok (.iconst 0, 1) := by decide +kernel
theorem d_MO_replace_33 : decode b_MO_replace 33 = .ok (.putfield 223, 3) := by decide +kernel
theorem d_MO_replace_36 : decode b_MO_replace 36 = .ok (.aload_n 0, 1) := by decide +kernel
theorem d_MO_replace_37 : decode b_MO_replace 37 = .ok (.iload_n 1, 1) := by decide +kernel
theorem d_MO_replace_38 : decode b_MO_replace 38 = .ok (.iload_n 2, 1) := by decide +kernel
theorem d_MO_replace_39 : decode b_MO_replace 39 = .ok (.invokevirtual 612, 3) := by decide +kernel
theorem d_MO_replace_42 : decode b_MO_replace 42 = .ok (.ifCond .ne 10, 3) := by decide +kernel
theorem d_MO_replace_45 : decode b_MO_replace 45 = .ok (.aload_n 0, 1) := by decide +kernel
theorem d_MO_replace_46 : decode b_MO_replace 46 = .ok (.iconst 1, 1) := by decide +kernel
theorem d_MO_replace_47 : decode b_MO_replace 47 = .ok (.putfield 220, 3) := by decide +kernel
theorem d_MO_replace_50 : decode b_MO_replace 50 = .ok (.iconst 0, 1) := by decide +kernel
theorem d_MO_replace_51 : decode b_MO_replace 51 = .ok (.ireturn, 1) := by decide +kernel
theorem d_MO_replace_52 : decode b_MO_replace 52 = .ok (.aload_n 0, 1) := by decide +kernel
theorem d_MO_replace_53 : decode b_MO_replace 53 = .ok (.iconst 0, 1) := by decide +kernel
theorem d_MO_replace_54 : decode b_MO_replace 54 = .ok (.putfield 594, 3) := by decide +kernel
theorem d_MO_replace_57 : decode b_MO_replace 57 = .ok (.aload_n 0, 1) := by decide +kernel
theorem d_MO_replace_58 : decode b_MO_replace 58 = .ok (.iconst 0, 1) := by decide +kernel
theorem d_MO_replace_59 : decode b_MO_replace 59 = .ok (.putfield 597, 3) := by decide +kernel
theorem d_MO_replace_62 : decode b_MO_replace 62 = .ok (.iconst 0, 1) := by decide +kernel
theorem d_MO_replace_63 : decode b_MO_replace 63 = .ok (.istore_n 3, 1) := by decide +kernel
theorem d_MO_replace_64 : decode b_MO_replace 64 = .ok (.aload_n 0, 1) := by decide +kernel
theorem d_MO_replace_65 : decode b_MO_replace 65 = .ok (.iload_n 1, 1) := by decide +kernel
theorem d_MO_replace_66 : decode b_MO_replace 66 = .ok (.invokevirtual 582, 3) := by decide +kernel
theorem d_MO_replace_69 : decode b_MO_replace 69 = .ok (.aload_n 0, 1) := by decide +kernel
theorem d_MO_replace_70 : decode b_MO_replace 70 = .ok (.getfield 597, 3) := by decide +kernel
theorem d_MO_replace_73 : decode b_MO_replace 73 = .ok (.ifCond .ne 38, 3) := by decide +kernel
theorem d_MO_replace_76 : decode b_MO_replace 76 = .ok (.aload_n 0, 1) := by decide +kernel
theorem d_MO_replace_77 : decode b_MO_replace 77 = .ok (.iload_n 1, 1) := by decide +kernel
theorem d_MO_replace_78 : decode b_MO_replace 78 = .ok (.invokevirtual 585, 3) := by decide +kernel
theorem d_MO_replace_81 : decode b_MO_replace 81 = .ok (.ifCond .eq 30, 3) := by decide +kernel
theorem d_MO_replace_84 : decode b_MO_replace 84 = .ok (.aload_n 0, 1) := by decide +kernel
theorem d_MO_replace_85 : decode b_MO_replace 85 = .ok (.iload_n 3, 1) := by decide +kernel
theorem d_MO_replace_86 : decode b_MO_replace 86 = .ok (.aload_n 0, 1) := by decide +kernel
theorem d_MO_replace_87 : decode b_MO_replace 87 = .ok (.getfield 190, 3) := by decide +kernel
theorem d_MO_replace_90 : decode b_MO_replace 90 = .ok (.iconst 0, 1) := by decide +kernel
theorem d_MO_replace_91 : decode b_MO_replace 91 = .ok (.iaload, 1) := by decide +kernel
theorem d_MO_replace_92 : decode b_MO_replace 92 = .ok (.invokevirtual 609, 3) := by decide +kernel
theorem d_MO_replace_95 : decode b_MO_replace 95 = .ok (.aload_n 0, 1) := by decide +kernel
theorem d_MO_replace_96 : decode b_MO_replace 96 = .ok (.iload_n 1, 1) := by decide +kernel
theorem d_MO_replace_97 : decode b_MO_replace 97 = .ok (.iload_n 2, 1) := by decide +kernel
theorem d_MO_replace_98 : decode b_MO_replace 98 = .ok (.invokevirtual 615, 3) := by decide +kernel
theorem d_MO_replace_101 : decode b_MO_replace 101 = .ok (.aload_n 0, 1) := by decide +kernel
theorem d_MO_replace_102 : decode b_MO_replace 102 = .ok (.getfield 190, 3) := by decide +kernel
theorem d_MO_replace_105 : decode b_MO_replace 105 = .ok (.iconst 1, 1) := by decide +kernel
theorem d_MO_replace_106 : decode b_MO_replace 106 = .ok (.iaload, 1) := by decide +kernel
theorem d_MO_replace_107 : decode b_MO_replace 107 = .ok (.istore_n 3, 1) := by decide +kernel
theorem d_MO_replace_108 : decode b_MO_replace 108 = .ok (.goto (-39), 3) := by decide +kernel
theorem d_MO_replace_111 : decode b_MO_replace 111 = .ok (.aload_n 0, 1) := by decide +kernel
theorem d_MO_replace_112 : decode b_MO_replace 112 = .ok (.iload_n 3, 1) := by decide +kernel
theorem d_MO_replace_113 : decode b_MO_replace 113 = .ok (.aload_n 0, 1) := by decide +kernel
theorem d_MO_replace_114 : decode b_MO_replace 114 = .ok (.getfield 510, 3) := by decide +kernel
theorem d_MO_replace_117 : decode b_MO_replace 117 = .ok (.invokevirtual 609, 3) := by decide +kernel
theorem d_MO_replace_120 : decode b_MO_replace 120 = .ok (.aload_n 0, 1) := by decide +kernel
theorem d_MO_replace_121 : decode b_MO_replace 121 = .ok (.aload_n 0, 1) := by decide +kernel
theorem d_MO_replace_122 : decode b_MO_replace 122 = .ok (.getfield 597, 3) := by decide +kernel
theorem d_MO_replace_125 : decode b_MO_replace 125 = .ok (.ifCond .eq 7, 3) := by decide +kernel
theorem d_MO_replace_128 : decode b_MO_replace 128 = .ok (.iconst 1, 1) := by decide +kernel
theorem d_MO_replace_129 : decode b_MO_replace 129 = .ok (.goto 4, 3) := by decide +kernel
theorem d_MO_replace_132 : decode b_MO_replace 132 = .ok (.iconst 0, 1) := by decide +kernel
theorem d_MO_replace_133 : decode b_MO_replace 133 = .ok (.putfield 220, 3) := by decide +kernel
theorem d_MO_replace_136 : decode b_MO_replace 136 = .ok (.aload_n 0, 1) := by decide +kernel
theorem d_MO_replace_137 : decode b_MO_replace 137 = .ok (.getfield 597, 3) := by decide +kernel
theorem d_MO_replace_140 : decode b_MO_replace 140 = .ok (.ifCond .eq 5, 3) := by decide +kernel
theorem d_MO_replace_143 : decode b_MO_replace 143 = .ok (.iconst 0, 1) := by decide +kernel
theorem d_MO_replace_144 : decode b_MO_replace 144 = .ok (.ireturn, 1) := by decide +kernel
theorem d_MO_replace_145 : decode b_MO_replace 145 = .ok (.aload_n 0, 1) := by decide +kernel
theorem d_MO_replace_146 : decode b_MO_replace 146 = .ok (.aload_n 0, 1) := by decide +kernel
theorem d_MO_replace_147 : decode b_MO_replace 147 = .ok (.getfield 594, 3) := by decide +kernel
theorem d_MO_replace_150 : decode b_MO_replace 150 = .ok (.putfield 618, 3) := by decide +kernel
theorem d_MO_replace_153 : decode b_MO_replace 153 = .ok (.iconst 0, 1) := by decide +kernel
theorem d_MO_replace_154 : decode b_MO_replace 154 = .ok (.istore 4, 2) := by decide +kernel
theorem d_MO_replace_156 : decode b_MO_replace 156 = .ok (.iload 4, 2) := by decide +kernel
theorem d_MO_replace_158 : decode b_MO_replace 158 = .ok (.aload_n 0, 1) := by decide +kernel
theorem d_MO_replace_159 : decode b_MO_replace 159 = .ok (.getfield 618, 3) := by decide +kernel
theorem d_MO_replace_162 : decode b_MO_replace 162 = .ok (.if_icmp .ge 23, 3) := by decide +kernel
theorem d_MO_replace_165 : decode b_MO_replace 165 = .ok (.aload_n 0, 1) := by decide +kernel
theorem d_MO_replace_166 : decode b_MO_replace 166 = .ok (.getfield 25, 3) := by decide +kernel
theorem d_MO_replace_169 : decode b_MO_replace 169 = .ok (.iload 4, 2) := by decide +kernel
theorem d_MO_replace_171 : decode b_MO_replace 171 = .ok (.aload_n 0, 1) := by decide +kernel
theorem d_MO_replace_172 : decode b_MO_replace 172 = .ok (.getfield 217, 3) := by decide +kernel
theorem d_MO_replace_175 : decode b_MO_replace 175 = .ok (.iload 4, 2) := by decide +kernel
theorem d_MO_replace_177 : decode b_MO_replace 177 = .ok (.iaload, 1) := by decide +kernel
theorem d_MO_replace_178 : decode b_MO_replace 178 = .ok (.iastore, 1) := by decide +kernel
theorem d_MO_replace_179 : decode b_MO_replace 179 = .ok (.iinc 4 1, 3) := by decide +kernel
theorem d_MO_replace_182 : decode b_MO_replace 182 = .ok (.goto (-26), 3) := by decide +kernel
theorem d_MO_replace_185 : decode b_MO_replace 185 = .ok (.aload_n 0, 1) := by decide +kernel
theorem d_MO_replace_186 : decode b_MO_replace 186 = .ok (.getfield 618, 3) := by decide +kernel
theorem d_MO_replace_189 : decode b_MO_replace 189 = .ok (.ireturn, 1) := by decide +kernel
theorem d_MO_split1_0 : decode b_MO_split1 0 = .ok (.aload_n 0, 1) := by decide +kernel
theorem d_MO_split1_1 : decode b_MO_split1 1 = .ok (.aload_n 0, 1) := by decide +kernel
theorem d_MO_split1_2 : decode b_MO_split1 2 = .ok (.iload_n 1, 1) := by decide +kernel
theorem d_MO_split1_3 : decode b_MO_split1 3 = .ok (.invokevirtual 507, 3) := by decide +kernel
theorem d_MO_split1_6 : decode b_MO_split1 6 = .ok (.ifCond .eq 7, 3) := by decide +kernel
theorem d_MO_split1_9 : decode b_MO_split1 9 = .ok (.iconst 0, 1) := by decide +kernel
theorem d_MO_split1_10 : decode b_MO_split1 10 = .ok (.goto 4, 3) := by decide +kernel
theorem d_MO_split1_13 : decode b_MO_split1 13 = .ok (.iconst 1, 1) := by decide +kernel
theorem d_MO_split1_14 : decode b_MO_split1 14 = .ok (.putfield 220, 3) := by decide +kernel
theorem d_MO_split1_17 : decode b_MO_split1 17 = .ok (.aload_n 0, 1) := by decide +kernel
theorem d_MO_split1_18 : decode b_MO_split1 18 = .ok (.getfield 220, 3) := by decide +kernel
theorem d_MO_split1_21 : decode b_MO_split1 21 = .ok (.ifCond .le 5, 3) := by decide +kernel
theorem d_MO_split1_24 : decode b_MO_split1 24 = .ok (.iconst 0, 1) := by decide +kernel
theorem d_MO_split1_25 : decode b_MO_split1 25 = .ok (.ireturn, 1) := by decide +kernel
theorem d_MO_split1_26 : decode b_MO_split1 26 = .ok (.aload_n 0, 1) := by decide +kernel
theorem d_MO_split1_27 : decode b_MO_split1 27 = .ok (.iconst 0, 1) := by decide +kernel
theorem d_MO_split1_28 : decode b_MO_split1 28 = .ok (.putfield 588, 3) := by decide +kernel
theorem d_MO_split1_31 : decode b_MO_split1 31 = .ok (.iconst 0, 1) := by decide +kernel
theorem d_MO_split1_32 : decode b_MO_split1 32 = .ok (.istore_n 2, 1) := by decide +kernel
theorem d_MO_split1_33 : decode b_MO_split1 33 = .ok (.aload_n 0, 1) := by decide +kernel
theorem d_MO_split1_34 : decode b_MO_split1 34 = .ok (.iload_n 1, 1) := by decide +kernel
theorem d_MO_split1_35 : decode b_MO_split1 35 = .ok (.invokevirtual 582, 3) := by decide +kernel
theorem d_MO_split1_38 : decode b_MO_split1 38 = .ok (.aload_n 0, 1) := by decide +kernel
theorem d_MO_split1_39 : decode b_MO_split1 39 = .ok (.iload_n 1, 1) := by decide +kernel
theorem d_MO_split1_40 : decode b_MO_split1 40 = .ok (.invokevirtual 585, 3) := by decide +kernel
theorem d_MO_split1_43 : decode b_MO_split1 43 = .ok (.ifCond .eq 64, 3) := by decide +kernel
theorem d_MO_split1_46 : decode b_MO_split1 46 = .ok (.aload_n 0, 1) := by decide +kernel
theorem d_MO_split1_47 : decode b_MO_split1 47 = .ok (.getfield 190, 3) := by decide +kernel
theorem d_MO_split1_50 : decode b_MO_split1 50 = .ok (.iconst 0, 1) := by decide +kernel
theorem d_MO_split1_51 : decode b_MO_split1 51 = .ok (.iaload, 1) := by decide +kernel
theorem d_MO_split1_52 : decode b_MO_split1 52 = .ok (.aload_n 0, 1) := by decide +kernel
theorem d_MO_split1_53 : decode b_MO_split1 53 = .ok (.getfield 190, 3) := by decide +kernel
theorem d_MO_split1_56 : decode b_MO_split1 56 = .ok (.iconst 1, 1) := by decide +kernel
theorem d_MO_split1_57 : decode b_MO_split1 57 = .ok (.iaload, 1) := by decide +kernel
theorem d_MO_split1_58 : decode b_MO_split1 58 = .ok (.if_icmp .ne 28, 3) := by decide +kernel
theorem d_MO_split1_61 : decode b_MO_split1 61 = .ok (.aload_n 0, 1) := by decide +kernel
theorem d_MO_split1_62 : decode b_MO_split1 62 = .ok (.getfield 190, 3) := by decide +kernel
theorem d_MO_split1_65 : decode b_MO_split1 65 = .ok (.iconst 0, 1) := by decide +kernel
theorem d_MO_split1_66 : decode b_MO_split1 66 = .ok (.iaload, 1) := by decide +kernel
theorem d_MO_split1_67 : decode b_MO_split1 67 = .ok (.ifCond .eq (-29), 3) := by decide +kernel
theorem d_MO_split1_70 : decode b_MO_split1 70 = .ok (.aload_n 0, 1) := by decide +kernel
theorem d_MO_split1_71 : decode b_MO_split1 71 = .ok (.getfield 190, 3) := by decide +kernel
theorem d_MO_split1_74 : decode b_MO_split1 74 = .ok (.iconst 0, 1) := by decide +kernel
theorem d_MO_split1_75 : decode b_MO_split1 75 = .ok (.iaload, 1) := by decide +kernel
theorem d_MO_split1_76 : decode b_MO_split1 76 = .ok (.aload_n 0, 1) := by decide +kernel
theorem d_MO_split1_77 : decode b_MO_split1 77 = .ok (.getfield 510, 3) := by decide +kernel
theorem d_MO_split1_80 : decode b_MO_split1 80 = .ok (.if_icmp .ne 6, 3) := by decide +kernel
theorem d_MO_split1_83 : decode b_MO_split1 83 = .ok (.goto (-45), 3) := by decide +kernel
theorem d_MO_split1_86 : decode b_MO_split1 86 = .ok (.aload_n 0, 1) := by decide +kernel
theorem d_MO_split1_87 : decode b_MO_split1 87 = .ok (.iload_n 2, 1) := by decide +kernel
theorem d_MO_split1_88 : decode b_MO_split1 88 = .ok (.aload_n 0, 1) := by decide +kernel
theorem d_MO_split1_89 : decode b_MO_split1 89 = .ok (.getfield 190, 3) := by decide +kernel
theorem d_MO_split1_92 : decode b_MO_split1 92 = .ok (.iconst 0, 1) := by decide +kernel
theorem d_MO_split1_93 : decode b_MO_split1 93 = .ok (.iaload, 1) := by decide +kernel
theorem d_MO_split1_94 : decode b_MO_split1 94 = .ok (.invokevirtual 591, 3) := by decide +kernel
theorem d_MO_split1_97 : decode b_MO_split1 97 = .ok (.aload_n 0, 1) := by decide +kernel
theorem d_MO_split1_98 : decode b_MO_split1 98 = .ok (.getfield 190, 3) := by decide +kernel
theorem d_MO_split1_101 : decode b_MO_split1 101 = .ok (.iconst 1, 1) := by decide +kernel
theorem d_MO_split1_102 : decode b_MO_split1 102 = .ok (.iaload, 1) := by decide +kernel
theorem d_MO_split1_103 : decode b_MO_split1 103 = .ok (.istore_n 2, 1) := by decide +kernel
theorem d_MO_split1_104 : decode b_MO_split1 104 = .ok (.goto (-66), 3) := by decide +kernel
theorem d_MO_split1_107 : decode b_MO_split1 107 = .ok (.aload_n 0, 1) := by decide +kernel
theorem d_MO_split1_108 : decode b_MO_split1 108 = .ok (.iload_n 2, 1) := by decide +kernel
theorem d_MO_split1_109 : decode b_MO_split1 109 = .ok (.aload_n 0, 1) := by decide +kernel
theorem d_MO_split1_110 : decode b_MO_split1 110 = .ok (.getfield 510, 3) := by decide +kernel
theorem d_MO_split1_113 : decode b_MO_split1 113 = .ok (.invokevirtual 591, 3) := by decide +kernel
theorem d_MO_split1_116 : decode b_MO_split1 116 = .ok (.aload_n 0, 1) := by decide +kernel
theorem d_MO_split1_117 : decode b_MO_split1 117 = .ok (.getfield 588, 3) := by decide +kernel
theorem d_MO_split1_120 : decode b_MO_split1 120 = .ok (.ireturn, 1) := by decide +kernel
theorem d_MO_which_0 : decode b_MO_which 0 = .ok (.aload_n 0, 1) := by decide +kernel
theorem d_MO_which_1 : decode b_MO_which 1 = .ok (.iconst 0, 1) := by decide +kernel
theorem d_MO_which_2 : decode b_MO_which 2 = .ok (.putfield 220, 3) := by decide +kernel
theorem d_MO_which_5 : decode b_MO_which 5 = .ok (.iconst 0, 1) := by decide +kernel
theorem d_MO_which_6 : decode b_MO_which 6 = .ok (.istore_n 3, 1) := by decide +kernel
theorem d_MO_which_7 : decode b_MO_which 7 = .ok (.iconst 0, 1) := by decide +kernel
theorem d_MO_which_8 : decode b_MO_which 8 = .ok (.istore 4, 2) := by decide +kernel
theorem d_MO_which_10 : decode b_MO_which 10 = .ok (.iload 4, 2) := by decide +kernel
theorem d_MO_which_12 : decode b_MO_which 12 = .ok (.bipush 6, 2) := by decide +kernel
theorem d_MO_which_14 : decode b_MO_which 14 = .ok (.if_icmp .ge 125, 3) := by decide +kernel
theorem d_MO_which_17 : decode b_MO_which 17 = .ok (.iload_n 1, 1) := by decide +kernel
theorem d_MO_which_18 : decode b_MO_which 18 = .ok (.iload 4, 2) := by decide +kernel
theorem d_MO_which_20 : decode b_MO_which 20 = .ok (.ishr, 1) := by decide +kernel
theorem d_MO_which_21 : decode b_MO_which 21 = .ok (.iconst 1, 1) := by decide +kernel
theorem d_MO_which_22 : decode b_MO_which 22 = .ok (.iand, 1) := by decide +kernel
theorem d_MO_which_23 : decode b_MO_which 23 = .ok (.ifCond .eq 110, 3) := by decide +kernel
theorem d_MO_which_26 : decode b_MO_which 26 = .ok (.aload_n 0, 1) := by decide +kernel
theorem d_MO_which_27 : decode b_MO_which 27 = .ok (.getfield 109, 3) := by decide +kernel
theorem d_MO_which_30 : decode b_MO_which 30 = .ok (.iload 4, 2) := by decide +kernel
theorem d_MO_which_32 : decode b_MO_which 32 = .ok (.baload, 1) := by decide +kernel
theorem d_MO_which_33 : decode b_MO_which 33 = .ok (.ifCond .ne 6, 3) := by decide +kernel
theorem d_MO_which_36 : decode b_MO_which 36 = .ok (.goto 97, 3) := by decide +kernel
theorem d_MO_which_39 : decode b_MO_which 39 = .ok (.aload_n 0, 1) := by decide +kernel
theorem d_MO_which_40 : decode b_MO_which 40 = .ok (.aload_n 0, 1) := by decide +kernel
theorem d_MO_which_41 : decode b_MO_which 41 = .ok (.getfield 178, 3) := by decide +kernel
theorem d_MO_which_44 : decode b_MO_which 44 = .ok (.iload 4, 2) := by decide +kernel
theorem d_MO_which_46 : decode b_MO_which 46 = .ok (.aload_n 0, 1) := by decide +kernel
theorem d_MO_which_47 : decode b_MO_which 47 = .ok (.getfield 510, 3) := by decide +kernel
theorem d_MO_which_50 : decode b_MO_which 50 = .ok (.iconst 0, 1) := by decide +kernel
theorem d_MO_which_51 : decode b_MO_which 51 = .ok (.iload_n 2, 1) := by decide +kernel
theorem d_MO_which_52 : decode b_MO_which 52 = .ok (.invokevirtual 559, 3) := by decide +kernel
theorem d_MO_which_55 : decode b_MO_which 55 = .ok (.aload_n 0, 1) := by decide +kernel
theorem d_MO_which_56 : decode b_MO_which 56 = .ok (.getfield 178, 3) := by decide +kernel
theorem d_MO_which_59 : decode b_MO_which 59 = .ok (.iconst 0, 1) := by decide +kernel
theorem d_MO_which_60 : decode b_MO_which 60 = .ok (.aload_n 0, 1) := by decide +kernel
theorem d_MO_which_61 : decode b_MO_which 61 = .ok (.getfield 112, 3) := by decide +kernel
theorem d_MO_which_64 : decode b_MO_which 64 = .ok (.iload 4, 2) := by decide +kernel
theorem d_MO_which_66 : decode b_MO_which 66 = .ok (.iaload, 1) := by decide +kernel
theorem d_MO_which_67 : decode b_MO_which 67 = .ok (.invokestatic 528, 3) := by decide +kernel
theorem d_MO_which_70 : decode b_MO_which 70 = .ok (.istore 5, 2) := by decide +kernel
theorem d_MO_which_72 : decode b_MO_which 72 = .ok (.iconst 1, 1) := by decide +kernel
theorem d_MO_which_73 : decode b_MO_which 73 = .ok (.istore 6, 2) := by decide +kernel
theorem d_MO_which_75 : decode b_MO_which 75 = .ok (.iload 6, 2) := by decide +kernel
theorem d_MO_which_77 : decode b_MO_which 77 = .ok (.aload_n 0, 1) := by decide +kernel
theorem d_MO_which_78 : decode b_MO_which 78 = .ok (.getfield 510, 3) := by decide +kernel
theorem d_MO_which_81 : decode b_MO_which 81 = .ok (.if_icmp .gt 36, 3) := by decide +kernel
theorem d_MO_which_84 : decode b_MO_which 84 = .ok (.iload 5, 2) := by decide +kernel
theorem d_MO_which_86 : decode b_MO_which 86 = .ok (.ifCond .ne 31, 3) := by decide +kernel
theorem d_MO_which_89 : decode b_MO_which 89 = .ok (.iload_n 2, 1) := by decide +kernel
theorem d_MO_which_90 : decode b_MO_which 90 = .ok (.ifCond .ne 27, 3) := by decide +kernel
theorem d_MO_which_93 : decode b_MO_which 93 = .ok (.aload_n 0, 1) := by decide +kernel
theorem d_MO_which_94 : decode b_MO_which 94 = .ok (.getfield 178, 3) := by decide +kernel
theorem d_MO_which_97 : decode b_MO_which 97 = .ok (.iload 6, 2) := by decide +kernel
theorem d_MO_which_99 : decode b_MO_which 99 = .ok (.aload_n 0, 1) := by decide +kernel
theorem d_MO_which_100 : decode b_MO_which 100 = .ok (.getfield 112, 3) := by decide +kernel
theorem d_MO_which_103 : decode b_MO_which 103 = .ok (.iload 4, 2) := by decide +kernel
theorem d_MO_which_105 : decode b_MO_which 105 = .ok (.iaload, 1) := by decide +kernel
theorem d_MO_which_106 : decode b_MO_which 106 = .ok (.invokestatic 528, 3) := by decide +kernel
theorem d_MO_which_109 : decode b_MO_which 109 = .ok (.istore 5, 2) := by decide +kernel
theorem d_MO_which_111 : decode b_MO_which 111 = .ok (.iinc 6 1, 3) := by decide +kernel
theorem d_MO_which_114 : decode b_MO_which 114 = .ok (.goto (-39), 3) := by decide +kernel
theorem d_MO_which_117 : decode b_MO_which 117 = .ok (.iload 5, 2) := by decide +kernel
theorem d_MO_which_119 : decode b_MO_which 119 = .ok (.ifCond .eq 12, 3) := by decide +kernel
theorem d_MO_which_122 : decode b_MO_which 122 = .ok (.iload_n 3, 1) := by decide +kernel
theorem d_MO_which_123 : decode b_MO_which 123 = .ok (.iconst 1, 1) := by decide +kernel
theorem d_MO_which_124 : decode b_MO_which 124 = .ok (.iload 4, 2) := by decide +kernel
theorem d_MO_which_126 : decode b_MO_which 126 = .ok (.ishl, 1) := by decide +kernel
theorem d_MO_which_127 : decode b_MO_which 127 = .ok (.ior, 1) := by decide +kernel
theorem d_MO_which_128 : decode b_MO_which 128 = .ok (.goto 4, 3) := by decide +kernel
theorem d_MO_which_131 : decode b_MO_which 131 = .ok (.iload_n 3, 1) := by decide +kernel
theorem d_MO_which_132 : decode b_MO_which 132 = .ok (.istore_n 3, 1) := by decide +kernel
theorem d_MO_which_133 : decode b_MO_which 133 = .ok (.iinc 4 1, 3) := by decide +kernel
theorem d_MO_which_136 : decode b_MO_which 136 = .ok (.goto (-126), 3) := by decide +kernel
theorem d_MO_which_139 : decode b_MO_which 139 = .ok (.iload_n 3, 1) := by decide +kernel
theorem d_MO_which_140 : decode b_MO_which 140 = .ok (.ireturn, 1) := by decide +kernel
theorem d_MO_write_0 : decode b_MO_write 0 = .ok (.aload_n 0, 1) := by decide +kernel
theorem d_MO_write_1 : decode b_MO_write 1 = .ok (.getfield 594, 3) := by decide +kernel
theorem d_MO_write_4 : decode b_MO_write 4 = .ok (.sipush 6000, 3) := by decide +kernel
theorem d_MO_write_7 : decode b_MO_write 7 = .ok (.if_icmp .ne 9, 3) := by decide +kernel
theorem d_MO_write_10 : decode b_MO_write 10 = .ok (.aload_n 0, 1) := by decide +kernel
theorem d_MO_write_11 : decode b_MO_write 11 = .ok (.iconst 1, 1) := by decide +kernel
theorem d_MO_write_12 : decode b_MO_write 12 = .ok (.putfield 597, 3) := by decide +kernel
theorem d_MO_write_15 : decode b_MO_write 15 = .ok (.return_, 1) := by decide +kernel
theorem d_MO_write_16 : decode b_MO_write 16 = .ok (.aload_n 0, 1) := by decide +kernel
theorem d_MO_write_17 : decode b_MO_write 17 = .ok (.getfield 217, 3) := by decide +kernel
theorem d_MO_write_20 : decode b_MO_write 20 = .ok (.aload_n 0, 1) := by decide +kernel
theorem d_MO_write_21 : decode b_MO_write 21 = .ok (.getfield 594, 3) := by decide +kernel
theorem d_MO_write_24 : decode b_MO_write 24 = .ok (.iload_n 1, 1) := by decide +kernel
theorem d_MO_write_25 : decode b_MO_write 25 = .ok (.iastore, 1) := by decide +kernel
theorem d_MO_write_26 : decode b_MO_write 26 = .ok (.aload_n 0, 1) := by decide +kernel
theorem d_MO_write_27 : decode b_MO_write 27 = .ok (.dup, 1) := by decide +kernel
theorem d_MO_write_28 : decode b_MO_write 28 = .ok (.getfield 594, 3) := by decide +kernel
theorem d_MO_write_31 : decode b_MO_write 31 = .ok (.iconst 1, 1) := by decide +kernel
theorem d_MO_write_32 : decode b_MO_write 32 = .ok (.iadd, 1) := by decide +kernel
theorem d_MO_write_33 : decode b_MO_write 33 = .ok (.putfield 594, 3) := by decide +kernel
theorem d_MO_write_36 : decode b_MO_write 36 = .ok (.return_, 1) := by decide +kernel
theorem d_MO_writeSubject_0 : decode b_MO_writeSubject 0 = .ok (.iload_n 1, 1) := by decide +kernel
theorem d_MO_writeSubject_1 : decode b_MO_writeSubject 1 = .ok (.istore_n 3, 1) := by decide +kernel
theorem d_MO_writeSubject_2 : decode b_MO_writeSubject 2 = .ok (.iload_n 3, 1) := by decide +kernel
theorem d_MO_writeSubject_3 : decode b_MO_writeSubject 3 = .ok (.iload_n 2, 1) := by decide +kernel
theorem d_MO_writeSubject_4 : decode b_MO_writeSubject 4 = .ok (.if_icmp .ge 26, 3) := by decide +kernel
theorem d_MO_writeSubject_7 : decode b_MO_writeSubject 7 = .ok (.aload_n 0, 1) := by decide +kernel
theorem d_MO_writeSubject_8 : decode b_MO_writeSubject 8 = .ok (.getfield 597, 3) := by decide +kernel
theorem d_MO_writeSubject_11 : decode b_MO_writeSubject 11 = .ok (.ifCond .ne 19, 3) := by decide +kernel
theorem d_MO_writeSubject_14 : decode b_MO_writeSubject 14 = .ok (.aload_n 0, 1) := by decide +kernel
theorem d_MO_writeSubject_15 : decode b_MO_writeSubject 15 = .ok (.aload_n 0, 1) := by decide +kernel
theorem d_MO_writeSubject_16 : decode b_MO_writeSubject 16 = .ok (.getfield 22, 3) := by decide +kernel
theorem d_MO_writeSubject_19 : decode b_MO_writeSubject 19 = .ok (.iload_n 3, 1) := by decide +kernel
theorem d_MO_writeSubject_20 : decode b_MO_writeSubject 20 = .ok (.iaload, 1) := by decide +kernel
theorem d_MO_writeSubject_21 : decode b_MO_writeSubject 21 = .ok (.invokevirtual 600, 3) := by decide +kernel
theorem d_MO_writeSubject_24 : decode b_MO_writeSubject 24 = .ok (.iinc 3 1, 3) := by decide +kernel
theorem d_MO_writeSubject_27 : decode b_MO_writeSubject 27 = .ok (.goto (-25), 3) := by decide +kernel
theorem d_MO_writeSubject_30 : decode b_MO_writeSubject 30 = .ok (.return_, 1) := by decide +kernel
theorem d_MO_writeTemplate_0 : decode b_MO_writeTemplate 0 = .ok (.iconst 0, 1) := by decide +kernel
theorem d_MO_writeTemplate_1 : decode b_MO_writeTemplate 1 = .ok (.istore_n 3, 1) := by decide +kernel
theorem d_MO_writeTemplate_2 : decode b_MO_writeTemplate 2 = .ok (.iload_n 3, 1) := by decide +kernel
theorem d_MO_writeTemplate_3 : decode b_MO_writeTemplate 3 = .ok (.iload_n 2, 1) := by decide +kernel
theorem d_MO_writeTemplate_4 : decode b_MO_writeTemplate 4 = .ok (.if_icmp .ge 110, 3) := by decide +kernel
theorem d_MO_writeTemplate_7 : decode b_MO_writeTemplate 7 = .ok (.aload_n 0, 1) := by decide +kernel
theorem d_MO_writeTemplate_8 : decode b_MO_writeTemplate 8 = .ok (.getfield 597, 3) := by decide +kernel
theorem d_MO_writeTemplate_11 : decode b_MO_writeTemplate 11 = .ok (.ifCond .ne 103, 3) := by decide +kernel
theorem d_MO_writeTemplate_14 : decode b_MO_writeTemplate 14 = .ok (.aload_n 0, 1) := by decide +kernel
theorem d_MO_writeTemplate_15 : decode b_MO_writeTemplate 15 = .ok (.getfield 19, 3) := by decide +kernel
theorem d_MO_writeTemplate_18 : decode b_MO_writeTemplate 18 = .ok (.iload_n 3, 1) := by decide +kernel
theorem d_MO_writeTemplate_19 : decode b_MO_writeTemplate 19 = .ok (.iaload, 1) := by decide +kernel
theorem d_MO_writeTemplate_20 : decode b_MO_writeTemplate 20 = .ok (.bipush 36, 2) := by decide +kernel
theorem d_MO_writeTemplate_22 : decode b_MO_writeTemplate 22 = .ok (.if_icmp .eq 16, 3) := by decide +kernel
theorem d_MO_writeTemplate_25 : decode b_MO_writeTemplate 25 = .ok (.aload_n 0, 1) := by decide +kernel
theorem d_MO_writeTemplate_26 : decode b_MO_writeTemplate 26 = .ok (.aload_n 0, 1) := by decide +kernel
theorem d_MO_writeTemplate_27 : decode b_MO_writeTemplate 27 = .ok (.getfield 19, 3) := by decide +kernel
theorem d_MO_writeTemplate_30 : decode b_MO_writeTemplate 30 = .ok (.iload_n 3, 1) := by decide +kernel
theorem d_MO_writeTemplate_31 : decode b_MO_writeTemplate 31 = .ok (.iaload, 1) := by decide +kernel
theorem d_MO_writeTemplate_32 : decode b_MO_writeTemplate 32 = .ok (.invokevirtual 600, 3) := by decide +kernel
theorem d_MO_writeTemplate_35 : decode b_MO_writeTemplate 35 = .ok (.goto 73, 3) := by decide +kernel
theorem d_MO_writeTemplate_38 : decode b_MO_writeTemplate 38 = .ok (.aload_n 0, 1) := by decide +kernel
theorem d_MO_writeTemplate_39 : decode b_MO_writeTemplate 39 = .ok (.iload_n 1, 1) := by decide +kernel
theorem d_MO_writeTemplate_40 : decode b_MO_writeTemplate 40 = .ok (.iload_n 3, 1) := by decide +kernel
theorem d_MO_writeTemplate_41 : decode b_MO_writeTemplate 41 = .ok (.iload_n 2, 1) := by decide +kernel
theorem d_MO_writeTemplate_42 : decode b_MO_writeTemplate 42 = .ok (.invokevirtual 606, 3) := by decide +kernel
theorem d_MO_writeTemplate_45 : decode b_MO_writeTemplate 45 = .ok (.istore 4, 2) := by decide +kernel
theorem d_MO_writeTemplate_47 : decode b_MO_writeTemplate 47 = .ok (.iload 4, 2) := by decide +kernel
