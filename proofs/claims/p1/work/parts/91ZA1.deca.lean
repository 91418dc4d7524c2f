theorem d_MO_addPiece_0 : decode b_MO_addPiece 0 = .ok (.aload_n 0, 1) := by decide +kernel
theorem d_MO_addPiece_1 : decode b_MO_addPiece 1 = .ok (.getfield 214, 3) := by decide +kernel
theorem d_MO_addPiece_4 : decode b_MO_addPiece 4 = .ok (.iconst 2, 1) := by decide +kernel
theorem d_MO_addPiece_5 : decode b_MO_addPiece 5 = .ok (.aload_n 0, 1) := by decide +kernel
theorem d_MO_addPiece_6 : decode b_MO_addPiece 6 = .ok (.getfield 588, 3) := by decide +kernel
theorem d_MO_addPiece_9 : decode b_MO_addPiece 9 = .ok (.imul, 1) := by decide +kernel
theorem d_MO_addPiece_10 : decode b_MO_addPiece 10 = .ok (.iload_n 1, 1) := by decide +kernel
theorem d_MO_addPiece_11 : decode b_MO_addPiece 11 = .ok (.iastore, 1) := by decide +kernel
theorem d_MO_addPiece_12 : decode b_MO_addPiece 12 = .ok (.aload_n 0, 1) := by decide +kernel
theorem d_MO_addPiece_13 : decode b_MO_addPiece 13 = .ok (.getfield 214, 3) := by decide +kernel
theorem d_MO_addPiece_16 : decode b_MO_addPiece 16 = .ok (.iconst 2, 1) := by decide +kernel
theorem d_MO_addPiece_17 : decode b_MO_addPiece 17 = .ok (.aload_n 0, 1) := by decide +kernel
theorem d_MO_addPiece_18 : decode b_MO_addPiece 18 = .ok (.getfield 588, 3) := by decide +kernel
theorem d_MO_addPiece_21 : decode b_MO_addPiece 21 = .ok (.imul, 1) := by decide +kernel
theorem d_MO_addPiece_22 : decode b_MO_addPiece 22 = .ok (.iconst 1, 1) := by decide +kernel
theorem d_MO_addPiece_23 : decode b_MO_addPiece 23 = .ok (.iadd, 1) := by decide +kernel
theorem d_MO_addPiece_24 : decode b_MO_addPiece 24 = .ok (.iload_n 2, 1) := by decide +kernel
theorem d_MO_addPiece_25 : decode b_MO_addPiece 25 = .ok (.iastore, 1) := by decide +kernel
theorem d_MO_addPiece_26 : decode b_MO_addPiece 26 = .ok (.aload_n 0, 1) := by decide +kernel
theorem d_MO_addPiece_27 : decode b_MO_addPiece 27 = .ok (.dup, 1) := by decide +kernel
theorem d_MO_addPiece_28 : decode b_MO_addPiece 28 = .ok (.getfield 588, 3) := by decide +kernel
theorem d_MO_addPiece_31 : decode b_MO_addPiece 31 = .ok (.iconst 1, 1) := by decide +kernel
theorem d_MO_addPiece_32 : decode b_MO_addPiece 32 = .ok (.iadd, 1) := by decide +kernel
theorem d_MO_addPiece_33 : decode b_MO_addPiece 33 = .ok (.putfield 588, 3) := by decide +kernel
theorem d_MO_addPiece_36 : decode b_MO_addPiece 36 = .ok (.return_, 1) := by decide +kernel
theorem d_MO_groupAt_0 : decode b_MO_groupAt 0 = .ok (.aload_n 0, 1) := by decide +kernel
theorem d_MO_groupAt_1 : decode b_MO_groupAt 1 = .ok (.getfield 19, 3) := by decide +kernel
theorem d_MO_groupAt_4 : decode b_MO_groupAt 4 = .ok (.iload_n 3, 1) := by decide +kernel
theorem d_MO_groupAt_5 : decode b_MO_groupAt 5 = .ok (.iload_n 2, 1) := by decide +kernel
theorem d_MO_groupAt_6 : decode b_MO_groupAt 6 = .ok (.iconst 1, 1) := by decide +kernel
theorem d_MO_groupAt_7 : decode b_MO_groupAt 7 = .ok (.iadd, 1) := by decide +kernel
theorem d_MO_groupAt_8 : decode b_MO_groupAt 8 = .ok (.invokestatic 229, 3) := by decide +kernel
theorem d_MO_groupAt_11 : decode b_MO_groupAt 11 = .ok (.istore 4, 2) := by decide +kernel
theorem d_MO_groupAt_13 : decode b_MO_groupAt 13 = .ok (.aload_n 0, 1) := by decide +kernel
theorem d_MO_groupAt_14 : decode b_MO_groupAt 14 = .ok (.iconst 2, 1) := by decide +kernel
theorem d_MO_groupAt_15 : decode b_MO_groupAt 15 = .ok (.putfield 603, 3) := by decide +kernel
theorem d_MO_groupAt_18 : decode b_MO_groupAt 18 = .ok (.iload_n 2, 1) := by decide +kernel
theorem d_MO_groupAt_19 : decode b_MO_groupAt 19 = .ok (.iconst 1, 1) := by decide +kernel
theorem d_MO_groupAt_20 : decode b_MO_groupAt 20 = .ok (.iadd, 1) := by decide +kernel
theorem d_MO_groupAt_21 : decode b_MO_groupAt 21 = .ok (.iload_n 3, 1) := by decide +kernel
theorem d_MO_groupAt_22 : decode b_MO_groupAt 22 = .ok (.if_icmp .lt 5, 3) := by decide +kernel
theorem d_MO_groupAt_25 : decode b_MO_groupAt 25 = .ok (.iconst (-1), 1) := by decide +kernel
theorem d_MO_groupAt_26 : decode b_MO_groupAt 26 = .ok (.ireturn, 1) := by decide +kernel
theorem d_MO_groupAt_27 : decode b_MO_groupAt 27 = .ok (.iload 4, 2) := by decide +kernel
theorem d_MO_groupAt_29 : decode b_MO_groupAt 29 = .ok (.bipush 36, 2) := by decide +kernel
theorem d_MO_groupAt_31 : decode b_MO_groupAt 31 = .ok (.if_icmp .ne 6, 3) := by decide +kernel
theorem d_MO_groupAt_34 : decode b_MO_groupAt 34 = .ok (.bipush 100, 2) := by decide +kernel
theorem d_MO_groupAt_36 : decode b_MO_groupAt 36 = .ok (.ireturn, 1) := by decide +kernel
theorem d_MO_groupAt_37 : decode b_MO_groupAt 37 = .ok (.iload 4, 2) := by decide +kernel
theorem d_MO_groupAt_39 : decode b_MO_groupAt 39 = .ok (.bipush 48, 2) := by decide +kernel
theorem d_MO_groupAt_41 : decode b_MO_groupAt 41 = .ok (.if_icmp .lt 34, 3) := by decide +kernel
theorem d_MO_groupAt_44 : decode b_MO_groupAt 44 = .ok (.iload 4, 2) := by decide +kernel
theorem d_MO_groupAt_46 : decode b_MO_groupAt 46 = .ok (.bipush 57, 2) := by decide +kernel
theorem d_MO_groupAt_48 : decode b_MO_groupAt 48 = .ok (.if_icmp .gt 27, 3) := by decide +kernel
theorem d_MO_groupAt_51 : decode b_MO_groupAt 51 = .ok (.iload 4, 2) := by decide +kernel
theorem d_MO_groupAt_53 : decode b_MO_groupAt 53 = .ok (.bipush 48, 2) := by decide +kernel
theorem d_MO_groupAt_55 : decode b_MO_groupAt 55 = .ok (.isub, 1) := by decide +kernel
theorem d_MO_groupAt_56 : decode b_MO_groupAt 56 = .ok (.aload_n 0, 1) := by decide +kernel
theorem d_MO_groupAt_57 : decode b_MO_groupAt 57 = .ok (.getfield 115, 3) := by decide +kernel
theorem d_MO_groupAt_60 : decode b_MO_groupAt 60 = .ok (.iload_n 1, 1) := by decide +kernel
theorem d_MO_groupAt_61 : decode b_MO_groupAt 61 = .ok (.iaload, 1) := by decide +kernel
theorem d_MO_groupAt_62 : decode b_MO_groupAt 62 = .ok (.if_icmp .gt 11, 3) := by decide +kernel
theorem d_MO_groupAt_65 : decode b_MO_groupAt 65 = .ok (.iload 4, 2) := by decide +kernel
theorem d_MO_groupAt_67 : decode b_MO_groupAt 67 = .ok (.bipush 48, 2) := by decide +kernel
theorem d_MO_groupAt_69 : decode b_MO_groupAt 69 = .ok (.isub, 1) := by decide +kernel
theorem d_MO_groupAt_70 : decode b_MO_groupAt 70 = .ok (.goto 4, 3) := by decide +kernel
theorem d_MO_groupAt_73 : decode b_MO_groupAt 73 = .ok (.iconst (-1), 1) := by decide +kernel
theorem d_MO_groupAt_74 : decode b_MO_groupAt 74 = .ok (.ireturn, 1) := by decide +kernel
theorem d_MO_groupAt_75 : decode b_MO_groupAt 75 = .ok (.iload 4, 2) := by decide +kernel
theorem d_MO_groupAt_77 : decode b_MO_groupAt 77 = .ok (.bipush 123, 2) := by decide +kernel
theorem d_MO_groupAt_79 : decode b_MO_groupAt 79 = .ok (.if_icmp .eq 5, 3) := by decide +kernel
theorem d_MO_groupAt_82 : decode b_MO_groupAt 82 = .ok (.iconst (-1), 1) := by decide +kernel
theorem d_MO_groupAt_83 : decode b_MO_groupAt 83 = .ok (.ireturn, 1) := by decide +kernel
theorem d_MO_groupAt_84 : decode b_MO_groupAt 84 = .ok (.iconst 0, 1) := by decide +kernel
theorem d_MO_groupAt_85 : decode b_MO_groupAt 85 = .ok (.istore 5, 2) := by decide +kernel
theorem d_MO_groupAt_87 : decode b_MO_groupAt 87 = .ok (.iload_n 2, 1) := by decide +kernel
theorem d_MO_groupAt_88 : decode b_MO_groupAt 88 = .ok (.iconst 2, 1) := by decide +kernel
theorem d_MO_groupAt_89 : decode b_MO_groupAt 89 = .ok (.iadd, 1) := by decide +kernel
theorem d_MO_groupAt_90 : decode b_MO_groupAt 90 = .ok (.iload 5, 2) := by decide +kernel
theorem d_MO_groupAt_92 : decode b_MO_groupAt 92 = .ok (.iadd, 1) := by decide +kernel
theorem d_MO_groupAt_93 : decode b_MO_groupAt 93 = .ok (.iload_n 3, 1) := by decide +kernel
theorem d_MO_groupAt_94 : decode b_MO_groupAt 94 = .ok (.if_icmp .ge 25, 3) := by decide +kernel
theorem d_MO_groupAt_97 : decode b_MO_groupAt 97 = .ok (.aload_n 0, 1) := by decide +kernel
theorem d_MO_groupAt_98 : decode b_MO_groupAt 98 = .ok (.getfield 19, 3) := by decide +kernel
theorem d_MO_groupAt_101 : decode b_MO_groupAt 101 = .ok (.iload_n 2, 1) := by decide +kernel
theorem d_MO_groupAt_102 : decode b_MO_groupAt 102 = .ok (.iconst 2, 1) := by decide +kernel
theorem d_MO_groupAt_103 : decode b_MO_groupAt 103 = .ok (.iadd, 1) := by decide +kernel
theorem d_MO_groupAt_104 : decode b_MO_groupAt 104 = .ok (.iload 5, 2) := by decide +kernel
theorem d_MO_groupAt_106 : decode b_MO_groupAt 106 = .ok (.iadd, 1) := by decide +kernel
theorem d_MO_groupAt_107 : decode b_MO_groupAt 107 = .ok (.iaload, 1) := by decide +kernel
theorem d_MO_groupAt_108 : decode b_MO_groupAt 108 = .ok (.bipush 125, 2) := by decide +kernel
theorem d_MO_groupAt_110 : decode b_MO_groupAt 110 = .ok (.if_icmp .eq 9, 3) := by decide +kernel
theorem d_MO_groupAt_113 : decode b_MO_groupAt 113 = .ok (.iinc 5 1, 3) := by decide +kernel
theorem d_MO_groupAt_116 : decode b_MO_groupAt 116 = .ok (.goto (-29), 3) := by decide +kernel
theorem d_MO_groupAt_119 : decode b_MO_groupAt 119 = .ok (.aload_n 0, 1) := by decide +kernel
theorem d_MO_groupAt_120 : decode b_MO_groupAt 120 = .ok (.iconst 3, 1) := by decide +kernel
theorem d_MO_groupAt_121 : decode b_MO_groupAt 121 = .ok (.iload 5, 2) := by decide +kernel
theorem d_MO_groupAt_123 : decode b_MO_groupAt 123 = .ok (.iadd, 1) := by decide +kernel
theorem d_MO_groupAt_124 : decode b_MO_groupAt 124 = .ok (.putfield 603, 3) := by decide +kernel
theorem d_MO_groupAt_127 : decode b_MO_groupAt 127 = .ok (.iload_n 2, 1) := by decide +kernel
theorem d_MO_groupAt_128 : decode b_MO_groupAt 128 = .ok (.iconst 2, 1) := by decide +kernel
theorem d_MO_groupAt_129 : decode b_MO_groupAt 129 = .ok (.iadd, 1) := by decide +kernel
theorem d_MO_groupAt_130 : decode b_MO_groupAt 130 = .ok (.iload 5, 2) := by decide +kernel
theorem d_MO_groupAt_132 : decode b_MO_groupAt 132 = .ok (.iadd, 1) := by decide +kernel
theorem d_MO_groupAt_133 : decode b_MO_groupAt 133 = .ok (.iload_n 3, 1) := by decide +kernel
theorem d_MO_groupAt_134 : decode b_MO_groupAt 134 = .ok (.if_icmp .lt 5, 3) := by decide +kernel
theorem d_MO_groupAt_137 : decode b_MO_groupAt 137 = .ok (.iconst (-1), 1) := by decide +kernel
theorem d_MO_groupAt_138 : decode b_MO_groupAt 138 = .ok (.ireturn, 1) := by decide +kernel
theorem d_MO_groupAt_139 : decode b_MO_groupAt 139 = .ok (.iconst 1, 1) := by decide +kernel
theorem d_MO_groupAt_140 : decode b_MO_groupAt 140 = .ok (.istore 6, 2) := by decide +kernel
theorem d_MO_groupAt_142 : decode b_MO_groupAt 142 = .ok (.iload 6, 2) := by decide +kernel
theorem d_MO_groupAt_144 : decode b_MO_groupAt 144 = .ok (.aload_n 0, 1) := by decide +kernel
theorem d_MO_groupAt_145 : decode b_MO_groupAt 145 = .ok (.getfield 115, 3) := by decide +kernel
theorem d_MO_groupAt_148 : decode b_MO_groupAt 148 = .ok (.iload_n 1, 1) := by decide +kernel
theorem d_MO_groupAt_149 : decode b_MO_groupAt 149 = .ok (.iaload, 1) := by decide +kernel
theorem d_MO_groupAt_150 : decode b_MO_groupAt 150 = .ok (.if_icmp .gt 106, 3) := by decide +kernel
theorem d_MO_groupAt_153 : decode b_MO_groupAt 153 = .ok (.iload 5, 2) := by decide +kernel
theorem d_MO_groupAt_155 : decode b_MO_groupAt 155 = .ok (.ifCond .le 24, 3) := by decide +kernel
theorem d_MO_groupAt_158 : decode b_MO_groupAt 158 = .ok (.aload_n 0, 1) := by decide +kernel
theorem d_MO_groupAt_159 : decode b_MO_groupAt 159 = .ok (.getfield 155, 3) := by decide +kernel
theorem d_MO_groupAt_162 : decode b_MO_groupAt 162 = .ok (.bipush 10, 2) := by decide +kernel
theorem d_MO_groupAt_164 : decode b_MO_groupAt 164 = .ok (.iload_n 1, 1) := by decide +kernel
theorem d_MO_groupAt_165 : decode b_MO_groupAt 165 = .ok (.imul, 1) := by decide +kernel
theorem d_MO_groupAt_166 : decode b_MO_groupAt 166 = .ok (.iload 6, 2) := by decide +kernel
theorem d_MO_groupAt_168 : decode b_MO_groupAt 168 = .ok (.iadd, 1) := by decide +kernel
theorem d_MO_groupAt_169 : decode b_MO_groupAt 169 = .ok (.iaload, 1) := by decide +kernel
theorem d_MO_groupAt_170 : decode b_MO_groupAt 170 = .ok (.iload 5, 2) := by decide +kernel
theorem d_MO_groupAt_172 : decode b_MO_groupAt 172 = .ok (.if_icmp .ne 7, 3) := by decide +kernel
theorem d_MO_groupAt_175 : decode b_MO_groupAt 175 = .ok (.iconst 1, 1) := by decide +kernel
theorem d_MO_groupAt_176 : decode b_MO_groupAt 176 = .ok (.goto 4, 3) := by decide +kernel
theorem d_MO_groupAt_179 : decode b_MO_groupAt 179 = .ok (.iconst 0, 1) := by decide +kernel
theorem d_MO_groupAt_180 : decode b_MO_groupAt 180 = .ok (.istore 7, 2) := by decide +kernel
theorem d_MO_groupAt_182 : decode b_MO_groupAt 182 = .ok (.iconst 0, 1) := by decide +kernel
theorem d_MO_groupAt_183 : decode b_MO_groupAt 183 = .ok (.istore 8, 2) := by decide +kernel
theorem d_MO_groupAt_185 : decode b_MO_groupAt 185 = .ok (.iload 8, 2) := by decide +kernel
theorem d_MO_groupAt_187 : decode b_MO_groupAt 187 = .ok (.iload 5, 2) := by decide +kernel
theorem d_MO_groupAt_189 : decode b_MO_groupAt 189 = .ok (.if_icmp .ge 53, 3) := by decide +kernel
theorem d_MO_groupAt_192 : decode b_MO_groupAt 192 = .ok (.iload 7, 2) := by decide +kernel
theorem d_MO_groupAt_194 : decode b_MO_groupAt 194 = .ok (.ifCond .eq 48, 3) := by decide +kernel
theorem d_MO_groupAt_197 : decode b_MO_groupAt 197 = .ok (.aload_n 0, 1) := by decide +kernel
theorem d_MO_groupAt_198 : decode b_MO_groupAt 198 = .ok (.getfield 152, 3) := by decide +kernel
theorem d_MO_groupAt_201 : decode b_MO_groupAt 201 = .ok (.bipush 120, 2) := by decide +kernel
theorem d_MO_groupAt_203 : decode b_MO_groupAt 203 = .ok (.iload_n 1, 1) := by decide +kernel
theorem d_MO_groupAt_204 : decode b_MO_groupAt 204 = .ok (.imul, 1) := by decide +kernel
theorem d_MO_groupAt_205 : decode b_MO_groupAt 205 = .ok (.bipush 12, 2) := by decide +kernel
theorem d_MO_groupAt_207 : decode b_MO_groupAt 207 = .ok (.iload 6, 2) := by decide +kernel
theorem d_MO_groupAt_209 : decode b_MO_groupAt 209 = .ok (.imul, 1) := by decide +kernel
theorem d_MO_groupAt_210 : decode b_MO_groupAt 210 = .ok (.iadd, 1) := by decide +kernel
theorem d_MO_groupAt_211 : decode b_MO_groupAt 211 = .ok (.iload 8, 2) := by decide +kernel
theorem d_MO_groupAt_213 : decode b_MO_groupAt 213 = .ok (.iadd, 1) := by decide +kernel
theorem d_MO_groupAt_214 : decode b_MO_groupAt 214 = .ok (.iaload, 1) := by decide +kernel
theorem d_MO_groupAt_215 : decode b_MO_groupAt 215 = .ok (.aload_n 0, 1) := by decide +kernel
theorem d_MO_groupAt_216 : decode b_MO_groupAt 216 = .ok (.getfield 19, 3) := by decide +kernel
theorem d_MO_groupAt_219 : decode b_MO_groupAt 219 = .ok (.iload_n 2, 1) := by decide +kernel
theorem d_MO_groupAt_220 : decode b_MO_groupAt 220 = .ok (.iconst 2, 1) := by decide +kernel
theorem d_MO_groupAt_221 : decode b_MO_groupAt 221 = .ok (.iadd, 1) := by decide +kernel
theorem d_MO_groupAt_222 : decode b_MO_groupAt 222 = .ok (.iload 8, 2) := by decide +kernel
theorem d_MO_groupAt_224 : decode b_MO_groupAt 224 = .ok (.iadd, 1) := by decide +kernel
theorem d_MO_groupAt_225 : decode b_MO_groupAt 225 = .ok (.iaload, 1) := by decide +kernel
theorem d_MO_groupAt_226 : decode b_MO_groupAt 226 = .ok (.if_icmp .ne 7, 3) := by decide +kernel
theorem d_MO_groupAt_229 : decode b_MO_groupAt 229 = .ok (.iconst 1, 1) := by decide +kernel
theorem d_MO_groupAt_230 : decode b_MO_groupAt 230 = .ok (.goto 4, 3) := by decide +kernel
theorem d_MO_groupAt_233 : decode b_MO_groupAt 233 = .ok (.iconst 0, 1) := by decide +kernel
theorem d_MO_groupAt_234 : decode b_MO_groupAt 234 = .ok (.istore 7, 2) := by decide +kernel
theorem d_MO_groupAt_236 : decode b_MO_groupAt 236 = .ok (.iinc 8 1, 3) := by decide +kernel
theorem d_MO_groupAt_239 : decode b_MO_groupAt 239 = .ok (.goto (-54), 3) := by decide +kernel
theorem d_MO_groupAt_242 : decode b_MO_groupAt 242 = .ok (.iload 7, 2) := by decide +kernel
theorem d_MO_groupAt_244 : decode b_MO_groupAt 244 = .ok (.ifCond .eq 6, 3) := by decide +kernel
theorem d_MO_groupAt_247 : decode b_MO_groupAt 247 = .ok (.iload 6, 2) := by decide +kernel
theorem d_MO_groupAt_249 : decode b_MO_groupAt 249 = .ok (.ireturn, 1) := by decide +kernel
theorem d_MO_groupAt_250 : decode b_MO_groupAt 250 = .ok (.iinc 6 1, 3) := by decide +kernel
theorem d_MO_groupAt_253 : decode b_MO_groupAt 253 = .ok (.goto (-111), 3) := by decide +kernel
theorem d_MO_groupAt_256 : decode b_MO_groupAt 256 = .ok (.iconst (-1), 1) := by decide +kernel
theorem d_MO_groupAt_257 : decode b_MO_groupAt 257 = .ok (.ireturn, 1) := by decide +kernel
theorem d_MO_isTemplate_0 : decode b_MO_isTemplate 0 = .ok (.iconst 1, 1) := by decide +kernel
theorem d_MO_isTemplate_1 : decode b_MO_isTemplate 1 = .ok (.istore_n 3, 1) := by decide +kernel
theorem d_MO_isTemplate_2 : decode b_MO_isTemplate 2 = .ok (.iconst 0, 1) := by decide +kernel
theorem d_MO_isTemplate_3 : decode b_MO_isTemplate 3 = .ok (.istore 4, 2) := by decide +kernel
theorem d_MO_isTemplate_5 : decode b_MO_isTemplate 5 = .ok (.iload 4, 2) := by decide +kernel
theorem d_MO_isTemplate_7 : decode b_MO_isTemplate 7 = .ok (.iload_n 2, 1) := by decide +kernel
theorem d_MO_isTemplate_8 : decode b_MO_isTemplate 8 = .ok (.if_icmp .ge 56, 3) := by decide +kernel
theorem d_MO_isTemplate_11 : decode b_MO_isTemplate 11 = .ok (.iload_n 3, 1) := by decide +kernel
theorem d_MO_isTemplate_12 : decode b_MO_isTemplate 12 = .ok (.ifCond .eq 52, 3) := by decide +kernel
theorem d_MO_isTemplate_15 : decode b_MO_isTemplate 15 = .ok (.aload_n 0, 1) := by decide +kernel
theorem d_MO_isTemplate_16 : decode b_MO_isTemplate 16 = .ok (.getfield 19, 3) := by decide +kernel
theorem d_MO_isTemplate_19 : decode b_MO_isTemplate 19 = .ok (.iload 4, 2) := by decide +kernel
theorem d_MO_isTemplate_21 : decode b_MO_isTemplate 21 = .ok (.iaload, 1) := by decide +kernel
theorem d_MO_isTemplate_22 : decode b_MO_isTemplate 22 = .ok (.bipush 36, 2) := by decide +kernel
theorem d_MO_isTemplate_24 : decode b_MO_isTemplate 24 = .ok (.if_icmp .eq 6, 3) := by decide +kernel
theorem d_MO_isTemplate_27 : decode b_MO_isTemplate 27 = .ok (.goto 31, 3) := by decide +kernel
theorem d_MO_isTemplate_30 : decode b_MO_isTemplate 30 = .ok (.aload_n 0, 1) := by decide +kernel
theorem d_MO_isTemplate_31 : decode b_MO_isTemplate 31 = .ok (.iload_n 1, 1) := by decide +kernel
theorem d_MO_isTemplate_32 : decode b_MO_isTemplate 32 = .ok (.iload 4, 2) := by decide +kernel
theorem d_MO_isTemplate_34 : decode b_MO_isTemplate 34 = .ok (.iload_n 2, 1) := by decide +kernel
theorem d_MO_isTemplate_35 : decode b_MO_isTemplate 35 = .ok (.invokevirtual 606, 3) := by decide +kernel
theorem d_MO_isTemplate_38 : decode b_MO_isTemplate 38 = .ok (.ifCond .lt 7, 3) := by decide +kernel
theorem d_MO_isTemplate_41 : decode b_MO_isTemplate 41 = .ok (.iconst 1, 1) := by decide +kernel
theorem d_MO_isTemplate_42 : decode b_MO_isTemplate 42 = .ok (.goto 4, 3) := by decide +kernel
theorem d_MO_isTemplate_45 : decode b_MO_isTemplate 45 = .ok (.iconst 0, 1) := by decide +kernel
theorem d_MO_isTemplate_46 : decode b_MO_isTemplate 46 = .ok (.istore_n 3, 1) := by decide +kernel
theorem d_MO_isTemplate_47 : decode b_MO_isTemplate 47 = .ok (.iload 4, 2) := by decide +kernel
theorem d_MO_isTemplate_49 : decode b_MO_isTemplate 49 = .ok (.aload_n 0, 1) := by decide +kernel
theorem d_MO_isTemplate_50 : decode b_MO_isTemplate 50 = .ok (.getfield 603, 3) := by decide +kernel
theorem d_MO_isTemplate_53 : decode b_MO_isTemplate 53 = .ok (.iconst 1, 1) := by decide +kernel
theorem d_MO_isTemplate_54 : decode b_MO_isTemplate 54 = .ok (.isub, 1) := by decide +kernel
theorem d_MO_isTemplate_55 : decode b_MO_isTemplate 55 = .ok (.iadd, 1) := by decide +kernel
theorem d_MO_isTemplate_56 : decode b_MO_isTemplate 56 = .ok (.istore 4, 2) := by decide +kernel
theorem d_MO_isTemplate_58 : decode b_MO_isTemplate 58 = .ok (.iinc 4 1, 3) := by decide +kernel
theorem d_MO_isTemplate_61 : decode b_MO_isTemplate 61 = .ok (.goto (-56), 3) := by decide +kernel
theorem d_MO_isTemplate_64 : decode b_MO_isTemplate 64 = .ok (.iload_n 3, 1) := by decide +kernel
theorem d_MO_isTemplate_65 : decode b_MO_isTemplate 65 = .ok (.ireturn, 1) := by decide +kernel
theorem d_MO_write_0 : decode b_MO_write 0 = .ok (.aload_n 0, 1) := by decide +kernel
theorem d_MO_write_1 : decode b_MO_write 1 = .ok (.getfield 594, 3) := by decide +kernel
theorem d_MO_write_4 : decode b_MO_write 4 = .ok (.sipush 6000, 3) := by decide +kernel
theorem d_MO_write_7 : decode b_MO_write 7 = .ok (.if_icmp .ne 9, 3) := by decide +kernel
theorem d_MO_write_10 : decode b_MO_write 10 = .ok (.aload_n 0, 1) := by decide +kernel
theorem d_MO_write_11 : decode b_MO_write 11 = .ok (.iconst 1, 1) := by decide +kernel
theorem d_MO_write_12 : decode b_MO_write 12 = .ok (.putfield 597, 3) := by decide +kernel
theorem d_MO_write_15 : decode b_MO_write 15 = .ok (.return_, 1) := by decide +kernel
theorem d_MO_write_16 : decode b_MO_write 16 = .ok (.aload_n 0, 1) := by decide +kernel
theorem d_MO_write_17 : decode b_MO_write 17 = .ok (.getfield 217, 3) := by decide +kernel
theorem d_MO_write_20 : decode b_MO_write 20 = .ok (.aload_n 0, 1) := by decide +kernel
theorem d_MO_write_21 : decode b_MO_write 21 = .ok (.getfield 594, 3) := by decide +kernel
theorem d_MO_write_24 : decode b_MO_write 24 = .ok (.iload_n 1, 1) := by decide +kernel
theorem d_MO_write_25 : decode b_MO_write 25 = .ok (.iastore, 1) := by decide +kernel
theorem d_MO_write_26 : decode b_MO_write 26 = .ok (.aload_n 0, 1) := by decide +kernel
theorem d_MO_write_27 : decode b_MO_write 27 = .ok (.dup, 1) := by decide +kernel
theorem d_MO_write_28 : decode b_MO_write 28 = .ok (.getfield 594, 3) := by decide +kernel
theorem d_MO_write_31 : decode b_MO_write 31 = .ok (.iconst 1, 1) := by decide +kernel
theorem d_MO_write_32 : decode b_MO_write 32 = .ok (.iadd, 1) := by decide +kernel
theorem d_MO_write_33 : decode b_MO_write 33 = .ok (.putfield 594, 3) := by decide +kernel
theorem d_MO_write_36 : decode b_MO_write 36 = .ok (.return_, 1) := by decide +kernel
theorem d_MO_writeSubject_0 : decode b_MO_writeSubject 0 = .ok (.iload_n 1, 1) := by decide +kernel
theorem d_MO_writeSubject_1 : decode b_MO_writeSubject 1 = .ok (.istore_n 3, 1) := by decide +kernel
theorem d_MO_writeSubject_2 : decode b_MO_writeSubject 2 = .ok (.iload_n 3, 1) := by decide +kernel
theorem d_MO_writeSubject_3 : decode b_MO_writeSubject 3 = .ok (.iload_n 2, 1) := by decide +kernel
theorem d_MO_writeSubject_4 : decode b_MO_writeSubject 4 = .ok (.if_icmp .ge 26, 3) := by decide +kernel
theorem d_MO_writeSubject_7 : decode b_MO_writeSubject 7 = .ok (.aload_n 0, 1) := by decide +kernel
theorem d_MO_writeSubject_8 : decode b_MO_writeSubject 8 = .ok (.getfield 597, 3) := by decide +kernel
theorem d_MO_writeSubject_11 : decode b_MO_writeSubject 11 = .ok (.ifCond .ne 19, 3) := by decide +kernel
theorem d_MO_writeSubject_14 : decode b_MO_writeSubject 14 = .ok (.aload_n 0, 1) := by decide +kernel
theorem d_MO_writeSubject_15 : decode b_MO_writeSubject 15 = .ok (.aload_n 0, 1) := by decide +kernel
theorem d_MO_writeSubject_16 : decode b_MO_writeSubject 16 = .ok (.getfield 22, 3) := by decide +kernel
theorem d_MO_writeSubject_19 : decode b_MO_writeSubject 19 = .ok (.iload_n 3, 1) := by decide +kernel
theorem d_MO_writeSubject_20 : decode b_MO_writeSubject 20 = .ok (.iaload, 1) := by decide +kernel
theorem d_MO_writeSubject_21 : decode b_MO_writeSubject 21 = .ok (.invokevirtual 600, 3) := by decide +kernel
theorem d_MO_writeSubject_24 : decode b_MO_writeSubject 24 = .ok (.iinc 3 1, 3) := by decide +kernel
theorem d_MO_writeSubject_27 : decode b_MO_writeSubject 27 = .ok (.goto (-25), 3) := by decide +kernel
theorem d_MO_writeSubject_30 : decode b_MO_writeSubject 30 = .ok (.return_, 1) := by decide +kernel
theorem d_MO_writeTemplate_0 : decode b_MO_writeTemplate 0 = .ok (.iconst 0, 1) := by decide +kernel
theorem d_MO_writeTemplate_1 : decode b_MO_writeTemplate 1 = .ok (.istore_n 3, 1) := by decide +kernel
theorem d_MO_writeTemplate_2 : decode b_MO_writeTemplate 2 = .ok (.iload_n 3, 1) := by decide +kernel
theorem d_MO_writeTemplate_3 : decode b_MO_writeTemplate 3 = .ok (.iload_n 2, 1) := by decide +kernel
theorem d_MO_writeTemplate_4 : decode b_MO_writeTemplate 4 = .ok (.if_icmp .ge 110, 3) := by decide +kernel
theorem d_MO_writeTemplate_7 : decode b_MO_writeTemplate 7 = .ok (.aload_n 0, 1) := by decide +kernel
theorem d_MO_writeTemplate_8 : decode b_MO_writeTemplate 8 = .ok (.getfield 597, 3) := by decide +kernel
theorem d_MO_writeTemplate_11 : decode b_MO_writeTemplate 11 = .ok (.ifCond .ne 103, 3) := by decide +kernel
theorem d_MO_writeTemplate_14 : decode b_MO_writeTemplate 14 = .ok (.aload_n 0, 1) := by decide +kernel
theorem d_MO_writeTemplate_15 : decode b_MO_writeTemplate 15 = .ok (.getfield 19, 3) := by decide +kernel
theorem d_MO_writeTemplate_18 : decode b_MO_writeTemplate 18 = .ok (.iload_n 3, 1) := by decide +kernel
theorem d_MO_writeTemplate_19 : decode b_MO_writeTemplate 19 = .ok (.iaload, 1) := by decide +kernel
theorem d_MO_writeTemplate_20 : decode b_MO_writeTemplate 20 = .ok (.bipush 36, 2) := by decide +kernel
theorem d_MO_writeTemplate_22 : decode b_MO_writeTemplate 22 = .ok (.if_icmp .eq 16, 3) := by decide +kernel
theorem d_MO_writeTemplate_25 : decode b_MO_writeTemplate 25 = .ok (.aload_n 0, 1) := by decide +kernel
theorem d_MO_writeTemplate_26 : decode b_MO_writeTemplate 26 = .ok (.aload_n 0, 1) := by decide +kernel
theorem d_MO_writeTemplate_27 : decode b_MO_writeTemplate 27 = .ok (.getfield 19, 3) := by decide +kernel
theorem d_MO_writeTemplate_30 : decode b_MO_writeTemplate 30 = .ok (.iload_n 3, 1) := by decide +kernel
theorem d_MO_writeTemplate_31 : decode b_MO_writeTemplate 31 = .ok (.iaload, 1) := by decide +kernel
theorem d_MO_writeTemplate_32 : decode b_MO_writeTemplate 32 = .ok (.invokevirtual 600, 3) := by decide +kernel
theorem d_MO_writeTemplate_35 : decode b_MO_writeTemplate 35 = .ok (.goto 73, 3) := by decide +kernel
theorem d_MO_writeTemplate_38 : decode b_MO_writeTemplate 38 = .ok (.aload_n 0, 1) := by decide +kernel
theorem d_MO_writeTemplate_39 : decode b_MO_writeTemplate 39 = .ok (.iload_n 1, 1) := by decide +kernel
theorem d_MO_writeTemplate_40 : decode b_MO_writeTemplate 40 = .ok (.iload_n 3, 1) := by decide +kernel
theorem d_MO_writeTemplate_41 : decode b_MO_writeTemplate 41 = .ok (.iload_n 2, 1) := by decide +kernel
theorem d_MO_writeTemplate_42 : decode b_MO_writeTemplate 42 = .ok (.invokevirtual 606, 3) := by decide +kernel
theorem d_MO_writeTemplate_45 : decode b_MO_writeTemplate 45 = .ok (.istore 4, 2) := by decide +kernel
theorem d_MO_writeTemplate_47 : decode b_MO_writeTemplate 47 = .ok (.iload 4, 2) := by decide +kernel
theorem d_MO_writeTemplate_49 : decode b_MO_writeTemplate 49 = .ok (.bipush 100, 2) := by decide +kernel
theorem d_MO_writeTemplate_51 : decode b_MO_writeTemplate 51 = .ok (.if_icmp .ne 12, 3) := by decide +kernel
theorem d_MO_writeTemplate_54 : decode b_MO_writeTemplate 54 = .ok (.aload_n 0, 1) := by decide +kernel
theorem d_MO_writeTemplate_55 : decode b_MO_writeTemplate 55 = .ok (.bipush 36, 2) := by decide +kernel
theorem d_MO_writeTemplate_57 : decode b_MO_writeTemplate 57 = .ok (.invokevirtual 600, 3) := by decide +kernel
theorem d_MO_writeTemplate_60 : decode b_MO_writeTemplate 60 = .ok (.goto 39, 3) := by decide +kernel
theorem d_MO_writeTemplate_63 : decode b_MO_writeTemplate 63 = .ok (.aload_n 0, 1) := by decide +kernel
theorem d_MO_writeTemplate_64 : decode b_MO_writeTemplate 64 = .ok (.getfield 190, 3) := by decide +kernel
theorem d_MO_writeTemplate_67 : decode b_MO_writeTemplate 67 = .ok (.iconst 2, 1) := by decide +kernel
theorem d_MO_writeTemplate_68 : decode b_MO_writeTemplate 68 = .ok (.iload 4, 2) := by decide +kernel
theorem d_MO_writeTemplate_70 : decode b_MO_writeTemplate 70 = .ok (.imul, 1) := by decide +kernel
theorem d_MO_writeTemplate_71 : decode b_MO_writeTemplate 71 = .ok (.iaload, 1) := by decide +kernel
theorem d_MO_writeTemplate_72 : decode b_MO_writeTemplate 72 = .ok (.ifCond .lt 27, 3) := by decide +kernel
theorem d_MO_writeTemplate_75 : decode b_MO_writeTemplate 75 = .ok (.aload_n 0, 1) := by decide +kernel
theorem d_MO_writeTemplate_76 : decode b_MO_writeTemplate 76 = .ok (.aload_n 0, 1) := by decide +kernel
theorem d_MO_writeTemplate_77 : decode b_MO_writeTemplate 77 = .ok (.getfield 190, 3) := by decide +kernel
theorem d_MO_writeTemplate_80 : decode b_MO_writeTemplate 80 = .ok (.iconst 2, 1) := by decide +kernel
theorem d_MO_writeTemplate_81 : decode b_MO_writeTemplate 81 = .ok (.iload 4, 2) := by decide +kernel
theorem d_MO_writeTemplate_83 : decode b_MO_writeTemplate 83 = .ok (.imul, 1) := by decide +kernel
theorem d_MO_writeTemplate_84 : decode b_MO_writeTemplate 84 = .ok (.iaload, 1) := by decide +kernel
theorem d_MO_writeTemplate_85 : decode b_MO_writeTemplate 85 = .ok (.aload_n 0, 1) := by decide +kernel
theorem d_MO_writeTemplate_86 : decode b_MO_writeTemplate 86 = .ok (.getfield 190, 3) := by decide +kernel
theorem d_MO_writeTemplate_89 : decode b_MO_writeTemplate 89 = .ok (.iconst 2, 1) := by decide +kernel
theorem d_MO_writeTemplate_90 : decode b_MO_writeTemplate 90 = .ok (.iload 4, 2) := by decide +kernel
theorem d_MO_writeTemplate_92 : decode b_MO_writeTemplate 92 = .ok (.imul, 1) := by decide +kernel
theorem d_MO_writeTemplate_93 : decode b_MO_writeTemplate 93 = .ok (.iconst 1, 1) := by decide +kernel
theorem d_MO_writeTemplate_94 : decode b_MO_writeTemplate 94 = .ok (.iadd, 1) := by decide +kernel
theorem d_MO_writeTemplate_95 : decode b_MO_writeTemplate 95 = .ok (.iaload, 1) := by decide +kernel
theorem d_MO_writeTemplate_96 : decode b_MO_writeTemplate 96 = .ok (.invokevirtual 609, 3) := by decide +kernel
theorem d_MO_writeTemplate_99 : decode b_MO_writeTemplate 99 = .ok (.iload_n 3, 1) := by decide +kernel
theorem d_MO_writeTemplate_100 : decode b_MO_writeTemplate 100 = .ok (.aload_n 0, 1) := by decide +kernel
theorem d_MO_writeTemplate_101 : decode b_MO_writeTemplate 101 = .ok (.getfield 603, 3) := by decide +kernel
theorem d_MO_writeTemplate_104 : decode b_MO_writeTemplate 104 = .ok (.iconst 1, 1) := by decide +kernel
theorem d_MO_writeTemplate_105 : decode b_MO_writeTemplate 105 = .ok (.isub, 1) := by decide +kernel
theorem d_MO_writeTemplate_106 : decode b_MO_writeTemplate 106 = .ok (.iadd, 1) := by decide +kernel
theorem d_MO_writeTemplate_107 : decode b_MO_writeTemplate 107 = .ok (.istore_n 3, 1) := by decide +kernel
theorem d_MO_writeTemplate_108 : decode b_MO_writeTemplate 108 = .ok (.iinc 3 1, 3) := by decide +kernel
theorem d_MO_writeTemplate_111 : decode b_MO_writeTemplate 111 = .ok (.goto (-109), 3) := by decide +kernel
theorem d_MO_writeTemplate_114 : decode b_MO_writeTemplate 114 = .ok (.return_, 1) := by decide +kernel
