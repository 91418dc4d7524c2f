theorem d_MO_all_79 : decode b_MO_all 79 = .ok (.iastore, 1) := by decide +kernel
theorem d_MO_all_80 : decode b_MO_all 80 = .ok (.aload_n 0, 1) := by decide +kernel
theorem d_MO_all_81 : decode b_MO_all 81 = .ok (.dup, 1) := by decide +kernel
theorem d_MO_all_82 : decode b_MO_all 82 = .ok (.getfield 579, 3) := by decide +kernel
theorem d_MO_all_85 : decode b_MO_all 85 = .ok (.iconst 1, 1) := by decide +kernel
theorem d_MO_all_86 : decode b_MO_all 86 = .ok (.iadd, 1) := by decide +kernel
theorem d_MO_all_87 : decode b_MO_all 87 = .ok (.putfield 579, 3) := by decide +kernel
theorem d_MO_all_90 : decode b_MO_all 90 = .ok (.goto (-54), 3) := by decide +kernel
theorem d_MO_all_93 : decode b_MO_all 93 = .ok (.aload_n 0, 1) := by decide +kernel
theorem d_MO_all_94 : decode b_MO_all 94 = .ok (.getfield 579, 3) := by decide +kernel
theorem d_MO_all_97 : decode b_MO_all 97 = .ok (.ireturn, 1) := by decide +kernel
theorem d_PW_found_0 : decode b_PW_found 0 = .ok (.aload_n 0, 1) := by decide +kernel
theorem d_PW_found_1 : decode b_PW_found 1 = .ok (.getfield 76, 3) := by decide +kernel
theorem d_PW_found_4 : decode b_PW_found 4 = .ok (.iload_n 1, 1) := by decide +kernel
theorem d_PW_found_5 : decode b_PW_found 5 = .ok (.iload_n 2, 1) := by decide +kernel
theorem d_PW_found_6 : decode b_PW_found 6 = .ok (.invokestatic 200, 3) := by decide +kernel
theorem d_PW_found_9 : decode b_PW_found 9 = .ok (.ireturn, 1) := by decide +kernel
theorem d_PW_pairAt_0 : decode b_PW_pairAt 0 = .ok (.iload_n 1, 1) := by decide +kernel
theorem d_PW_pairAt_1 : decode b_PW_pairAt 1 = .ok (.ifCond .lt 26, 3) := by decide +kernel
theorem d_PW_pairAt_4 : decode b_PW_pairAt 4 = .ok (.iload_n 1, 1) := by decide +kernel
theorem d_PW_pairAt_5 : decode b_PW_pairAt 5 = .ok (.aload_n 0, 1) := by decide +kernel
theorem d_PW_pairAt_6 : decode b_PW_pairAt 6 = .ok (.getfield 101, 3) := by decide +kernel
theorem d_PW_pairAt_9 : decode b_PW_pairAt 9 = .ok (.iconst 2, 1) := by decide +kernel
theorem d_PW_pairAt_10 : decode b_PW_pairAt 10 = .ok (.idiv, 1) := by decide +kernel
theorem d_PW_pairAt_11 : decode b_PW_pairAt 11 = .ok (.if_icmp .ge 16, 3) := by decide +kernel
theorem d_PW_pairAt_14 : decode b_PW_pairAt 14 = .ok (.iload_n 2, 1) := by decide +kernel
theorem d_PW_pairAt_15 : decode b_PW_pairAt 15 = .ok (.ifCond .lt 12, 3) := by decide +kernel
theorem d_PW_pairAt_18 : decode b_PW_pairAt 18 = .ok (.iload_n 2, 1) := by decide +kernel
theorem d_PW_pairAt_19 : decode b_PW_pairAt 19 = .ok (.iconst 1, 1) := by decide +kernel
theorem d_PW_pairAt_20 : decode b_PW_pairAt 20 = .ok (.if_icmp .gt 7, 3) := by decide +kernel
theorem d_PW_pairAt_23 : decode b_PW_pairAt 23 = .ok (.iconst 1, 1) := by decide +kernel
theorem d_PW_pairAt_24 : decode b_PW_pairAt 24 = .ok (.goto 4, 3) := by decide +kernel
theorem d_PW_pairAt_27 : decode b_PW_pairAt 27 = .ok (.iconst 0, 1) := by decide +kernel
theorem d_PW_pairAt_28 : decode b_PW_pairAt 28 = .ok (.istore_n 3, 1) := by decide +kernel
theorem d_PW_pairAt_29 : decode b_PW_pairAt 29 = .ok (.iload_n 3, 1) := by decide +kernel
theorem d_PW_pairAt_30 : decode b_PW_pairAt 30 = .ok (.ifCond .eq 15, 3) := by decide +kernel
theorem d_PW_pairAt_33 : decode b_PW_pairAt 33 = .ok (.aload_n 0, 1) := by decide +kernel
theorem d_PW_pairAt_34 : decode b_PW_pairAt 34 = .ok (.iconst 2, 1) := by decide +kernel
theorem d_PW_pairAt_35 : decode b_PW_pairAt 35 = .ok (.iload_n 1, 1) := by decide +kernel
theorem d_PW_pairAt_36 : decode b_PW_pairAt 36 = .ok (.imul, 1) := by decide +kernel
theorem d_PW_pairAt_37 : decode b_PW_pairAt 37 = .ok (.iload_n 2, 1) := by decide +kernel
theorem d_PW_pairAt_38 : decode b_PW_pairAt 38 = .ok (.iadd, 1) := by decide +kernel
theorem d_PW_pairAt_39 : decode b_PW_pairAt 39 = .ok (.invokevirtual 228, 3) := by decide +kernel
theorem d_PW_pairAt_42 : decode b_PW_pairAt 42 = .ok (.goto 4, 3) := by decide +kernel
theorem d_PW_pairAt_45 : decode b_PW_pairAt 45 = .ok (.iconst (-1), 1) := by decide +kernel
theorem d_PW_pairAt_46 : decode b_PW_pairAt 46 = .ok (.ireturn, 1) := by decide +kernel
theorem d_MO_found_0 : decode b_MO_found 0 = .ok (.aload_n 0, 1) := by decide +kernel
theorem d_MO_found_1 : decode b_MO_found 1 = .ok (.iconst 0, 1) := by decide +kernel
theorem d_MO_found_2 : decode b_MO_found 2 = .ok (.putfield 220, 3) := by decide +kernel
theorem d_MO_found_5 : decode b_MO_found 5 = .ok (.iload_n 1, 1) := by decide +kernel
theorem d_MO_found_6 : decode b_MO_found 6 = .ok (.ifCond .lt 20, 3) := by decide +kernel
theorem d_MO_found_9 : decode b_MO_found 9 = .ok (.iload_n 1, 1) := by decide +kernel
theorem d_MO_found_10 : decode b_MO_found 10 = .ok (.aload_n 0, 1) := by decide +kernel
theorem d_MO_found_11 : decode b_MO_found 11 = .ok (.getfield 579, 3) := by decide +kernel
theorem d_MO_found_14 : decode b_MO_found 14 = .ok (.if_icmp .ge 12, 3) := by decide +kernel
theorem d_MO_found_17 : decode b_MO_found 17 = .ok (.iload_n 2, 1) := by decide +kernel
theorem d_MO_found_18 : decode b_MO_found 18 = .ok (.ifCond .lt 8, 3) := by decide +kernel
theorem d_MO_found_21 : decode b_MO_found 21 = .ok (.iload_n 2, 1) := by decide +kernel
theorem d_MO_found_22 : decode b_MO_found 22 = .ok (.iconst 1, 1) := by decide +kernel
theorem d_MO_found_23 : decode b_MO_found 23 = .ok (.if_icmp .le 7, 3) := by decide +kernel
theorem d_MO_found_26 : decode b_MO_found 26 = .ok (.iconst (-1), 1) := by decide +kernel
theorem d_MO_found_27 : decode b_MO_found 27 = .ok (.goto 13, 3) := by decide +kernel
theorem d_MO_found_30 : decode b_MO_found 30 = .ok (.aload_n 0, 1) := by decide +kernel
theorem d_MO_found_31 : decode b_MO_found 31 = .ok (.getfield 211, 3) := by decide +kernel
theorem d_MO_found_34 : decode b_MO_found 34 = .ok (.iconst 2, 1) := by decide +kernel
theorem d_MO_found_35 : decode b_MO_found 35 = .ok (.iload_n 1, 1) := by decide +kernel
theorem d_MO_found_36 : decode b_MO_found 36 = .ok (.imul, 1) := by decide +kernel
theorem d_MO_found_37 : decode b_MO_found 37 = .ok (.iload_n 2, 1) := by decide +kernel
theorem d_MO_found_38 : decode b_MO_found 38 = .ok (.iadd, 1) := by decide +kernel
theorem d_MO_found_39 : decode b_MO_found 39 = .ok (.iaload, 1) := by decide +kernel
theorem d_MO_found_40 : decode b_MO_found 40 = .ok (.ireturn, 1) := by decide +kernel
theorem d_LA_replace_0 : decode b_LA_replace 0 = .ok (.aload_n 2, 1) := by decide +kernel
theorem d_LA_replace_1 : decode b_LA_replace 1 = .ok (.iconst 0, 1) := by decide +kernel
theorem d_LA_replace_2 : decode b_LA_replace 2 = .ok (.aload_n 0, 1) := by decide +kernel
theorem d_LA_replace_3 : decode b_LA_replace 3 = .ok (.iload_n 1, 1) := by decide +kernel
theorem d_LA_replace_4 : decode b_LA_replace 4 = .ok (.invokevirtual 23, 3) := by decide +kernel
theorem d_LA_replace_7 : decode b_LA_replace 7 = .ok (.i2l, 1) := by decide +kernel
theorem d_LA_replace_8 : decode b_LA_replace 8 = .ok (.lastore, 1) := by decide +kernel
theorem d_LA_replace_9 : decode b_LA_replace 9 = .ok (.goto 6, 3) := by decide +kernel
theorem d_LA_replace_12 : decode b_LA_replace 12 = .ok (.astore_n 3, 1) := by decide +kernel
theorem d_LA_replace_13 : decode b_LA_replace 13 = .ok (.iconst 1, 1) := by decide +kernel
theorem d_LA_replace_14 : decode b_LA_replace 14 = .ok (.ireturn, 1) := by decide +kernel
theorem d_LA_replace_15 : decode b_LA_replace 15 = .ok (.iconst 0, 1) := by decide +kernel
theorem d_LA_replace_16 : decode b_LA_replace 16 = .ok (.ireturn, 1) := by decide +kernel
theorem d_PW_replace_0 : decode b_PW_replace 0 = .ok (.aload_n 0, 1) := by decide +kernel
theorem d_PW_replace_1 : decode b_PW_replace 1 = .ok (.iload_n 1, 1) := by decide +kernel
theorem d_PW_replace_2 : decode b_PW_replace 2 = .ok (.invokevirtual 148, 3) := by decide +kernel
theorem d_PW_replace_5 : decode b_PW_replace 5 = .ok (.astore_n 2, 1) := by decide +kernel
theorem d_PW_replace_6 : decode b_PW_replace 6 = .ok (.aload_n 2, 1) := by decide +kernel
theorem d_PW_replace_7 : decode b_PW_replace 7 = .ok (.ifnonnull 13, 3) := by decide +kernel
theorem d_PW_replace_10 : decode b_PW_replace 10 = .ok (.new 109, 3) := by decide +kernel
theorem d_PW_replace_13 : decode b_PW_replace 13 = .ok (.dup, 1) := by decide +kernel
theorem d_PW_replace_14 : decode b_PW_replace 14 = .ok (.ldc 187, 2) := by decide +kernel
theorem d_PW_replace_16 : decode b_PW_replace 16 = .ok (.invokespecial 113, 3) := by decide +kernel
theorem d_PW_replace_19 : decode b_PW_replace 19 = .ok (.athrow, 1) := by decide +kernel
theorem d_PW_replace_20 : decode b_PW_replace 20 = .ok (.aload_n 0, 1) := by decide +kernel
theorem d_PW_replace_21 : decode b_PW_replace 21 = .ok (.aload_n 2, 1) := by decide +kernel
theorem d_PW_replace_22 : decode b_PW_replace 22 = .ok (.invokevirtual 204, 3) := by decide +kernel
theorem d_PW_replace_25 : decode b_PW_replace 25 = .ok (.istore_n 3, 1) := by decide +kernel
theorem d_PW_replace_26 : decode b_PW_replace 26 = .ok (.aload_n 0, 1) := by decide +kernel
theorem d_PW_replace_27 : decode b_PW_replace 27 = .ok (.getfield 18, 3) := by decide +kernel
theorem d_PW_replace_30 : decode b_PW_replace 30 = .ok (.invokevirtual 120, 3) := by decide +kernel
theorem d_PW_replace_33 : decode b_PW_replace 33 = .ok (.iload_n 3, 1) := by decide +kernel
theorem d_PW_replace_34 : decode b_PW_replace 34 = .ok (.ifCond .ne 13, 3) := by decide +kernel
theorem d_PW_replace_37 : decode b_PW_replace 37 = .ok (.new 109, 3) := by decide +kernel
theorem d_PW_replace_40 : decode b_PW_replace 40 = .ok (.dup, 1) := by decide +kernel
theorem d_PW_replace_41 : decode b_PW_replace 41 = .ok (.ldc 208, 2) := by decide +kernel
theorem d_PW_replace_43 : decode b_PW_replace 43 = .ok (.invokespecial 113, 3) := by decide +kernel
theorem d_PW_replace_46 : decode b_PW_replace 46 = .ok (.athrow, 1) := by decide +kernel
theorem d_PW_replace_47 : decode b_PW_replace 47 = .ok (.aload_n 0, 1) := by decide +kernel
theorem d_PW_replace_48 : decode b_PW_replace 48 = .ok (.getfield 88, 3) := by decide +kernel
theorem d_PW_replace_51 : decode b_PW_replace 51 = .ok (.invokevirtual 120, 3) := by decide +kernel
theorem d_PW_replace_54 : decode b_PW_replace 54 = .ok (.iconst (-1), 1) := by decide +kernel
theorem d_PW_replace_55 : decode b_PW_replace 55 = .ok (.istore 4, 2) := by decide +kernel
theorem d_PW_replace_57 : decode b_PW_replace 57 = .ok (.iconst 0, 1) := by decide +kernel
theorem d_PW_replace_58 : decode b_PW_replace 58 = .ok (.istore 5, 2) := by decide +kernel
theorem d_PW_replace_60 : decode b_PW_replace 60 = .ok (.iconst 1, 1) := by decide +kernel
theorem d_PW_replace_61 : decode b_PW_replace 61 = .ok (.istore 6, 2) := by decide +kernel
theorem d_PW_replace_63 : decode b_PW_replace 63 = .ok (.aload_n 0, 1) := by decide +kernel
theorem d_PW_replace_64 : decode b_PW_replace 64 = .ok (.getfield 55, 3) := by decide +kernel
theorem d_PW_replace_67 : decode b_PW_replace 67 = .ok (.aload_n 2, 1) := by decide +kernel
theorem d_PW_replace_68 : decode b_PW_replace 68 = .ok (.aload_n 0, 1) := by decide +kernel
theorem d_PW_replace_69 : decode b_PW_replace 69 = .ok (.getfield 38, 3) := by decide +kernel
theorem d_PW_replace_72 : decode b_PW_replace 72 = .ok (.iconst 0, 1) := by decide +kernel
theorem d_PW_replace_73 : decode b_PW_replace 73 = .ok (.iconst 0, 1) := by decide +kernel
theorem d_PW_replace_74 : decode b_PW_replace 74 = .ok (.aload_n 0, 1) := by decide +kernel
theorem d_PW_replace_75 : decode b_PW_replace 75 = .ok (.getfield 42, 3) := by decide +kernel
theorem d_PW_replace_78 : decode b_PW_replace 78 = .ok (.invokevirtual 189, 3) := by decide +kernel
theorem d_PW_replace_81 : decode b_PW_replace 81 = .ok (.iconst 0, 1) := by decide +kernel
theorem d_PW_replace_82 : decode b_PW_replace 82 = .ok (.istore 7, 2) := by decide +kernel
theorem d_PW_replace_84 : decode b_PW_replace 84 = .ok (.iload 7, 2) := by decide +kernel
theorem d_PW_replace_86 : decode b_PW_replace 86 = .ok (.aload_n 0, 1) := by decide +kernel
theorem d_PW_replace_87 : decode b_PW_replace 87 = .ok (.getfield 38, 3) := by decide +kernel
theorem d_PW_replace_90 : decode b_PW_replace 90 = .ok (.getfield 164, 3) := by decide +kernel
theorem d_PW_replace_93 : decode b_PW_replace 93 = .ok (.if_icmp .gt 77, 3) := by decide +kernel
theorem d_PW_replace_96 : decode b_PW_replace 96 = .ok (.iload 6, 2) := by decide +kernel
theorem d_PW_replace_98 : decode b_PW_replace 98 = .ok (.ifCond .eq 72, 3) := by decide +kernel
theorem d_PW_replace_101 : decode b_PW_replace 101 = .ok (.aload_n 0, 1) := by decide +kernel
theorem d_PW_replace_102 : decode b_PW_replace 102 = .ok (.iload 4, 2) := by decide +kernel
theorem d_PW_replace_104 : decode b_PW_replace 104 = .ok (.invokevirtual 193, 3) := by decide +kernel
theorem d_PW_replace_107 : decode b_PW_replace 107 = .ok (.ifCond .eq 63, 3) := by decide +kernel
theorem d_PW_replace_110 : decode b_PW_replace 110 = .ok (.aload_n 0, 1) := by decide +kernel
theorem d_PW_replace_111 : decode b_PW_replace 111 = .ok (.getfield 88, 3) := by decide +kernel
theorem d_PW_replace_114 : decode b_PW_replace 114 = .ok (.aload_n 0, 1) := by decide +kernel
theorem d_PW_replace_115 : decode b_PW_replace 115 = .ok (.getfield 38, 3) := by decide +kernel
theorem d_PW_replace_118 : decode b_PW_replace 118 = .ok (.getfield 210, 3) := by decide +kernel
theorem d_PW_replace_121 : decode b_PW_replace 121 = .ok (.iload 4, 2) := by decide +kernel
theorem d_PW_replace_123 : decode b_PW_replace 123 = .ok (.iconst 0, 1) := by decide +kernel
theorem d_PW_replace_124 : decode b_PW_replace 124 = .ok (.invokestatic 213, 3) := by decide +kernel
theorem d_PW_replace_127 : decode b_PW_replace 127 = .ok (.aload_n 0, 1) := by decide +kernel
theorem d_PW_replace_128 : decode b_PW_replace 128 = .ok (.getfield 42, 3) := by decide +kernel
theorem d_PW_replace_131 : decode b_PW_replace 131 = .ok (.iconst 0, 1) := by decide +kernel
theorem d_PW_replace_132 : decode b_PW_replace 132 = .ok (.iaload, 1) := by decide +kernel
theorem d_PW_replace_133 : decode b_PW_replace 133 = .ok (.invokevirtual 105, 3) := by decide +kernel
theorem d_PW_replace_136 : decode b_PW_replace 136 = .ok (.ifCond .eq 14, 3) := by decide +kernel
theorem d_PW_replace_139 : decode b_PW_replace 139 = .ok (.aload_n 0, 1) := by decide +kernel
theorem d_PW_replace_140 : decode b_PW_replace 140 = .ok (.invokevirtual 218, 3) := by decide +kernel
theorem d_PW_replace_143 : decode b_PW_replace 143 = .ok (.ifCond .eq 7, 3) := by decide +kernel
theorem d_PW_replace_146 : decode b_PW_replace 146 = .ok (.iconst 1, 1) := by decide +kernel
theorem d_PW_replace_147 : decode b_PW_replace 147 = .ok (.goto 4, 3) := by decide +kernel
theorem d_PW_replace_150 : decode b_PW_replace 150 = .ok (.iconst 0, 1) := by decide +kernel
theorem d_PW_replace_151 : decode b_PW_replace 151 = .ok (.istore 6, 2) := by decide +kernel
theorem d_PW_replace_153 : decode b_PW_replace 153 = .ok (.aload_n 0, 1) := by decide +kernel
theorem d_PW_replace_154 : decode b_PW_replace 154 = .ok (.getfield 42, 3) := by decide +kernel
theorem d_PW_replace_157 : decode b_PW_replace 157 = .ok (.iconst 1, 1) := by decide +kernel
theorem d_PW_replace_158 : decode b_PW_replace 158 = .ok (.iaload, 1) := by decide +kernel
theorem d_PW_replace_159 : decode b_PW_replace 159 = .ok (.istore 4, 2) := by decide +kernel
theorem d_PW_replace_161 : decode b_PW_replace 161 = .ok (.iinc 5 1, 3) := by decide +kernel
theorem d_PW_replace_164 : decode b_PW_replace 164 = .ok (.iinc 7 1, 3) := by decide +kernel
theorem d_PW_replace_167 : decode b_PW_replace 167 = .ok (.goto (-83), 3) := by decide +kernel
theorem d_PW_replace_170 : decode b_PW_replace 170 = .ok (.aload_n 0, 1) := by decide +kernel
theorem d_PW_replace_171 : decode b_PW_replace 171 = .ok (.aload_n 2, 1) := by decide +kernel
theorem d_PW_replace_172 : decode b_PW_replace 172 = .ok (.getfield 152, 3) := by decide +kernel
theorem d_PW_replace_175 : decode b_PW_replace 175 = .ok (.iload 5, 2) := by decide +kernel
theorem d_PW_replace_177 : decode b_PW_replace 177 = .ok (.invokevirtual 175, 3) := by decide +kernel
theorem d_PW_replace_180 : decode b_PW_replace 180 = .ok (.iload 6, 2) := by decide +kernel
theorem d_PW_replace_182 : decode b_PW_replace 182 = .ok (.ifCond .eq 33, 3) := by decide +kernel
theorem d_PW_replace_185 : decode b_PW_replace 185 = .ok (.aload_n 0, 1) := by decide +kernel
theorem d_PW_replace_186 : decode b_PW_replace 186 = .ok (.getfield 88, 3) := by decide +kernel
theorem d_PW_replace_189 : decode b_PW_replace 189 = .ok (.aload_n 0, 1) := by decide +kernel
theorem d_PW_replace_190 : decode b_PW_replace 190 = .ok (.getfield 38, 3) := by decide +kernel
theorem d_PW_replace_193 : decode b_PW_replace 193 = .ok (.getfield 210, 3) := by decide +kernel
theorem d_PW_replace_196 : decode b_PW_replace 196 = .ok (.iload 4, 2) := by decide +kernel
theorem d_PW_replace_198 : decode b_PW_replace 198 = .ok (.iconst 0, 1) := by decide +kernel
theorem d_PW_replace_199 : decode b_PW_replace 199 = .ok (.invokestatic 213, 3) := by decide +kernel
theorem d_PW_replace_202 : decode b_PW_replace 202 = .ok (.aload_n 0, 1) := by decide +kernel
theorem d_PW_replace_203 : decode b_PW_replace 203 = .ok (.getfield 38, 3) := by decide +kernel
theorem d_PW_replace_206 : decode b_PW_replace 206 = .ok (.getfield 164, 3) := by decide +kernel
theorem d_PW_replace_209 : decode b_PW_replace 209 = .ok (.invokevirtual 105, 3) := by decide +kernel
theorem d_PW_replace_212 : decode b_PW_replace 212 = .ok (.ifCond .ne 13, 3) := by decide +kernel
theorem d_PW_replace_215 : decode b_PW_replace 215 = .ok (.new 109, 3) := by decide +kernel
theorem d_PW_replace_218 : decode b_PW_replace 218 = .ok (.dup, 1) := by decide +kernel
theorem d_PW_replace_219 : decode b_PW_replace 219 = .ok (.ldc 222, 2) := by decide +kernel
theorem d_PW_replace_221 : decode b_PW_replace 221 = .ok (.invokespecial 113, 3) := by decide +kernel
theorem d_PW_replace_224 : decode b_PW_replace 224 = .ok (.athrow, 1) := by decide +kernel
theorem d_PW_replace_225 : decode b_PW_replace 225 = .ok (.aload_n 0, 1) := by decide +kernel
theorem d_PW_replace_226 : decode b_PW_replace 226 = .ok (.getfield 88, 3) := by decide +kernel
theorem d_PW_replace_229 : decode b_PW_replace 229 = .ok (.astore 7, 2) := by decide +kernel
theorem d_PW_replace_231 : decode b_PW_replace 231 = .ok (.aload_n 0, 1) := by decide +kernel
theorem d_PW_replace_232 : decode b_PW_replace 232 = .ok (.aload_n 0, 1) := by decide +kernel
theorem d_PW_replace_233 : decode b_PW_replace 233 = .ok (.getfield 85, 3) := by decide +kernel
theorem d_PW_replace_236 : decode b_PW_replace 236 = .ok (.putfield 88, 3) := by decide +kernel
theorem d_PW_replace_239 : decode b_PW_replace 239 = .ok (.aload_n 0, 1) := by decide +kernel
theorem d_PW_replace_240 : decode b_PW_replace 240 = .ok (.aload 7, 2) := by decide +kernel
theorem d_PW_replace_242 : decode b_PW_replace 242 = .ok (.putfield 85, 3) := by decide +kernel
theorem d_PW_replace_245 : decode b_PW_replace 245 = .ok (.aload_n 0, 1) := by decide +kernel
theorem d_PW_replace_246 : decode b_PW_replace 246 = .ok (.getfield 85, 3) := by decide +kernel
theorem d_PW_replace_249 : decode b_PW_replace 249 = .ok (.getfield 101, 3) := by decide +kernel
theorem d_PW_replace_252 : decode b_PW_replace 252 = .ok (.ireturn, 1) := by decide +kernel
theorem d_MO_replace_0 : decode b_MO_replace 0 = .ok (.aload_n 0, 1) := by decide +kernel
theorem d_MO_replace_1 : decode b_MO_replace 1 = .ok (.aload_n 0, 1) := by decide +kernel
theorem d_MO_replace_2 : decode b_MO_replace 2 = .ok (.iload_n 1, 1) := by decide +kernel
theorem d_MO_replace_3 : decode b_MO_replace 3 = .ok (.invokevirtual 507, 3) := by decide +kernel
theorem d_MO_replace_6 : decode b_MO_replace 6 = .ok (.ifCond .eq 7, 3) := by decide +kernel
theorem d_MO_replace_9 : decode b_MO_replace 9 = .ok (.iconst 0, 1) := by decide +kernel
theorem d_MO_replace_10 : decode b_MO_replace 10 = .ok (.goto 4, 3) := by decide +kernel
theorem d_MO_replace_13 : decode b_MO_replace 13 = .ok (.iconst 1, 1) := by decide +kernel
theorem d_MO_replace_14 : decode b_MO_replace 14 = .ok (.putfield 220, 3) := by decide +kernel
theorem d_MO_replace_17 : decode b_MO_replace 17 = .ok (.aload_n 0, 1) := by decide +kernel
theorem d_MO_replace_18 : decode b_MO_replace 18 = .ok (.getfield 220, 3) := by decide +kernel
theorem d_MO_replace_21 : decode b_MO_replace 21 = .ok (.ifCond .le 5, 3) := by decide +kernel
theorem d_MO_replace_24 : decode b_MO_replace 24 = .ok (.iconst 0, 1) := by decide +kernel
theorem d_MO_replace_25 : decode b_MO_replace 25 = .ok (.ireturn, 1) := by decide +kernel
theorem d_MO_replace_26 : decode b_MO_replace 26 = .ok (.aload_n 0, 1) := by decide +kernel
theorem d_MO_replace_27 : decode b_MO_replace 27 = .ok (.getfield 223, 3) := by decide +kernel
theorem d_MO_replace_30 : decode b_MO_replace 30 = .ok (.istore_n 2, 1) := by decide +kernel
theorem d_MO_replace_31 : decode b_MO_replace 31 = .ok (.aload_n 0, 1) := by decide +kernel
theorem d_MO_replace_32 : decode b_MO_replace 32 = .ok (.iconst 0, 1) := by decide +kernel
theorem d_MO_replace_33 : decode b_MO_replace 33 = .ok (.putfield 223, 3) := by decide +kernel
theorem d_MO_replace_36 : decode b_MO_replace 36 = .ok (.aload_n 0, 1) := by decide +kernel
theorem d_MO_replace_37 : decode b_MO_replace 37 = .ok (.iload_n 1, 1) := by decide +kernel
theorem d_MO_replace_38 : decode b_MO_replace 38 = .ok (.iload_n 2, 1) := by decide +kernel
theorem d_MO_replace_39 : decode b_MO_replace 39 = .ok (.invokevirtual 612, 3) := by decide +kernel
theorem d_MO_replace_42 : decode b_MO_replace 42 = .ok (.ifCond .ne 10, 3) := by decide +kernel
theorem d_MO_replace_45 : decode b_MO_replace 45 = .ok (.aload_n 0, 1) := by decide +kernel
theorem d_MO_replace_46 : decode b_MO_replace 46 = .ok (.iconst 1, 1) := by decide +kernel
theorem d_MO_replace_47 : decode b_MO_replace 47 = .ok (.putfield 220, 3) := by decide +kernel
theorem d_MO_replace_50 : decode b_MO_replace 50 = .ok (.iconst 0, 1) := by decide +kernel
theorem d_MO_replace_51 : decode b_MO_replace 51 = .ok (.ireturn, 1) := by decide +kernel
theorem d_MO_replace_52 : decode b_MO_replace 52 = .ok (.aload_n 0, 1) := by decide +kernel
theorem d_MO_replace_53 : decode b_MO_replace 53 = .ok (.iconst 0, 1) := by decide +kernel
theorem d_MO_replace_54 : decode b_MO_replace 54 = .ok (.putfield 594, 3) := by decide +kernel
theorem d_MO_replace_57 : decode b_MO_replace 57 = .ok (.aload_n 0, 1) := by decide +kernel
theorem d_MO_replace_58 : decode b_MO_replace 58 = .ok (.iconst 0, 1) := by decide +kernel
theorem d_MO_replace_59 : decode b_MO_replace 59 = .ok (.putfield 597, 3) := by decide +kernel
theorem d_MO_replace_62 : decode b_MO_replace 62 = .ok (.iconst 0, 1) := by decide +kernel
theorem d_MO_replace_63 : decode b_MO_replace 63 = .ok (.istore_n 3, 1) := by decide +kernel
theorem d_MO_replace_64 : decode b_MO_replace 64 = .ok (.aload_n 0, 1) := by decide +kernel
theorem d_MO_replace_65 : decode b_MO_replace 65 = .ok (.iload_n 1, 1) := by decide +kernel
theorem d_MO_replace_66 : decode b_MO_replace 66 = .ok (.invokevirtual 582, 3) := by decide +kernel
theorem d_MO_replace_69 : decode b_MO_replace 69 = .ok (.aload_n 0, 1) := by decide +kernel
theorem d_MO_replace_70 : decode b_MO_replace 70 = .ok (.getfield 597, 3) := by decide +kernel
theorem d_MO_replace_73 : decode b_MO_replace 73 = .ok (.ifCond .ne 38, 3) := by decide +kernel
theorem d_MO_replace_76 : decode b_MO_replace 76 = .ok (.aload_n 0, 1) := by decide +kernel
theorem d_MO_replace_77 : decode b_MO_replace 77 = .ok (.iload_n 1, 1) := by decide +kernel
theorem d_MO_replace_78 : decode b_MO_replace 78 = .ok (.invokevirtual 585, 3) := by decide +kernel
theorem d_MO_replace_81 : decode b_MO_replace 81 = .ok (.ifCond .eq 30, 3) := by decide +kernel
theorem d_MO_replace_84 : decode b_MO_replace 84 = .ok (.aload_n 0, 1) := by decide +kernel
theorem d_MO_replace_85 : decode b_MO_replace 85 = .ok (.iload_n 3, 1) := by decide +kernel
theorem d_MO_replace_86 : decode b_MO_replace 86 = .ok (.aload_n 0, 1) := by decide +kernel
theorem d_MO_replace_87 : decode b_MO_replace 87 = .ok (.getfield 190, 3) := by decide +kernel
theorem d_MO_replace_90 : decode b_MO_replace 90 = .ok (.iconst 0, 1) := by decide +kernel
theorem d_MO_replace_91 : decode b_MO_replace 91 = .ok (.iaload, 1) := by decide +kernel
theorem d_MO_replace_92 : decode b_MO_replace 92 = .ok (.invokevirtual 609, 3) := by decide +kernel
theorem d_MO_replace_95 : decode b_MO_replace 95 = .ok (.aload_n 0, 1) := by decide +kernel
theorem d_MO_replace_96 : decode b_MO_replace 96 = .ok (.iload_n 1, 1) := by decide +kernel
theorem d_MO_replace_97 : decode b_MO_replace 97 = .ok (.iload_n 2, 1) := by decide +kernel
theorem d_MO_replace_98 : decode b_MO_replace 98 = .ok (.invokevirtual 615, 3) := by decide +kernel
theorem d_MO_replace_101 : decode b_MO_replace 101 = .ok (.aload_n 0, 1) := by decide +kernel
theorem d_MO_replace_102 : decode b_MO_replace 102 = .ok (.getfield 190, 3) := by decide +kernel
theorem d_MO_replace_105 : decode b_MO_replace 105 = .ok (.iconst 1, 1) := by decide +kernel
theorem d_MO_replace_106 : decode b_MO_replace 106 = .ok (.iaload, 1) := by decide +kernel
theorem d_MO_replace_107 : decode b_MO_replace 107 = .ok (.istore_n 3, 1) := by decide +kernel
theorem d_MO_replace_108 : decode b_MO_replace 108 = .ok (.goto (-39), 3) := by decide +kernel
theorem d_MO_replace_111 : decode b_MO_replace 111 = .ok (.aload_n 0, 1) := by decide +kernel
theorem d_MO_replace_112 : decode b_MO_replace 112 = .ok (.iload_n 3, 1) := by decide +kernel
theorem d_MO_replace_113 : decode b_MO_replace 113 = .ok (.aload_n 0, 1) := by decide +kernel
theorem d_MO_replace_114 : decode b_MO_replace 114 = .ok (.getfield 510, 3) := by decide +kernel
theorem d_MO_replace_117 : decode b_MO_replace 117 = .ok (.invokevirtual 609, 3) := by decide +kernel
theorem d_MO_replace_120 : decode b_MO_replace 120 = .ok (.aload_n 0, 1) := by decide +kernel
theorem d_MO_replace_121 : decode b_MO_replace 121 = .ok (.aload_n 0, 1) := by decide +kernel
theorem d_MO_replace_122 : decode b_MO_replace 122 = .ok (.getfield 597, 3) := by decide +kernel
theorem d_MO_replace_125 : decode b_MO_replace 125 = .ok (.ifCond .eq 7, 3) := by decide +kernel
theorem d_MO_replace_128 : decode b_MO_replace 128 = .ok (.iconst 1, 1) := by decide +kernel
theorem d_MO_replace_129 : decode b_MO_replace 129 = .ok (.goto 4, 3) := by decide +kernel
theorem d_MO_replace_132 : decode b_MO_replace 132 = .ok (.iconst 0, 1) := by decide +kernel
theorem d_MO_replace_133 : decode b_MO_replace 133 = .ok (.putfield 220, 3) := by decide +kernel
theorem d_MO_replace_136 : decode b_MO_replace 136 = .ok (.aload_n 0, 1) := by decide +kernel
theorem d_MO_replace_137 : decode b_MO_replace 137 = .ok (.getfield 597, 3) := by decide +kernel
theorem d_MO_replace_140 : decode b_MO_replace 140 = .ok (.ifCond .eq 5, 3) := by decide +kernel
theorem d_MO_replace_143 : decode b_MO_replace 143 = .ok (.iconst 0, 1) := by decide +kernel
theorem d_MO_replace_144 : decode b_MO_replace 144 = .ok (.ireturn, 1) := by decide +kernel
theorem d_MO_replace_145 : decode b_MO_replace 145 = .ok (.aload_n 0, 1) := by decide +kernel
theorem d_MO_replace_146 : decode b_MO_replace 146 = .ok (.aload_n 0, 1) := by decide +kernel
theorem d_MO_replace_147 : decode b_MO_replace 147 = .ok (.getfield 594, 3) := by decide +kernel
theorem d_MO_replace_150 : decode b_MO_replace 150 = .ok (.putfield 618, 3) := by decide +kernel
theorem d_MO_replace_153 : decode b_MO_replace 153 = .ok (.iconst 0, 1) := by decide +kernel
theorem d_MO_replace_154 : decode b_MO_replace 154 = .ok (.istore 4, 2) := by decide +kernel
theorem d_MO_replace_156 : decode b_MO_replace 156 = .ok (.iload 4, 2) := by decide +kernel
theorem d_MO_replace_158 : decode b_MO_replace 158 = .ok (.aload_n 0, 1) := by decide +kernel
theorem d_MO_replace_159 : decode b_MO_replace 159 = .ok (.getfield 618, 3) := by decide +kernel
theorem d_MO_replace_162 : decode b_MO_replace 162 = .ok (.if_icmp .ge 23, 3) := by decide +kernel
theorem d_MO_replace_165 : decode b_MO_replace 165 = .ok (.aload_n 0, 1) := by decide +kernel
theorem d_MO_replace_166 : decode b_MO_replace 166 = .ok (.getfield 25, 3) := by decide +kernel
theorem d_MO_replace_169 : decode b_MO_replace 169 = .ok (.iload 4, 2) := by decide +kernel
theorem d_MO_replace_171 : decode b_MO_replace 171 = .ok (.aload_n 0, 1) := by decide +kernel
theorem d_MO_replace_172 : decode b_MO_replace 172 = .ok (.getfield 217, 3) := by decide +kernel
theorem d_MO_replace_175 : decode b_MO_replace 175 = .ok (.iload 4, 2) := by decide +kernel
theorem d_MO_replace_177 : decode b_MO_replace 177 = .ok (.iaload, 1) := by decide +kernel
theorem d_MO_replace_178 : decode b_MO_replace 178 = .ok (.iastore, 1) := by decide +kernel
theorem d_MO_replace_179 : decode b_MO_replace 179 = .ok (.iinc 4 1, 3) := by decide +kernel
theorem d_MO_replace_182 : decode b_MO_replace 182 = .ok (.goto (-26), 3) := by decide +kernel
theorem d_MO_replace_185 : decode b_MO_replace 185 = .ok (.aload_n 0, 1) := by decide +kernel
theorem d_MO_replace_186 : decode b_MO_replace 186 = .ok (.getfield 618, 3) := by decide +kernel
theorem d_MO_replace_189 : decode b_MO_replace 189 = .ok (.ireturn, 1) := by decide +kernel
theorem d_LA_split_0 : decode b_LA_split 0 = .ok (.aload_n 2, 1) := by decide +kernel
theorem d_LA_split_1 : decode b_LA_split 1 = .ok (.iconst 0, 1) := by decide +kernel
theorem d_LA_split_2 : decode b_LA_split 2 = .ok (.aload_n 0, 1) := by decide +kernel
theorem d_LA_split_3 : decode b_LA_split 3 = .ok (.iload_n 1, 1) := by decide +kernel
theorem d_LA_split_4 : decode b_LA_split 4 = .ok (.invokevirtual 26, 3) := by decide +kernel
theorem d_LA_split_7 : decode b_LA_split 7 = .ok (.i2l, 1) := by decide +kernel
theorem d_LA_split_8 : decode b_LA_split 8 = .ok (.lastore, 1) := by decide +kernel
theorem d_LA_split_9 : decode b_LA_split 9 = .ok (.goto 6, 3) := by decide +kernel
theorem d_LA_split_12 : decode b_LA_split 12 = .ok (.astore_n 3, 1) := by decide +kernel
theorem d_LA_split_13 : decode b_LA_split 13 = .ok (.iconst 1, 1) := by decide +kernel
theorem d_LA_split_14 : decode b_LA_split 14 = .ok (.ireturn, 1) := by decide +kernel
theorem d_LA_split_15 : decode b_LA_split 15 = .ok (.iconst 0, 1) := by decide +kernel
theorem d_LA_split_16 : decode b_LA_split 16 = .ok (.ireturn, 1) := by decide +kernel
theorem d_PW_split_0 : decode b_PW_split 0 = .ok (.aload_n 0, 1) := by decide +kernel
theorem d_PW_split_1 : decode b_PW_split 1 = .ok (.iload_n 1, 1) := by decide +kernel
theorem d_PW_split_2 : decode b_PW_split 2 = .ok (.invokevirtual 148, 3) := by decide +kernel
theorem d_PW_split_5 : decode b_PW_split 5 = .ok (.astore_n 2, 1) := by decide +kernel
theorem d_PW_split_6 : decode b_PW_split 6 = .ok (.aload_n 2, 1) := by decide +kernel
theorem d_PW_split_7 : decode b_PW_split 7 = .ok (.ifnonnull 13, 3) := by decide +kernel
theorem d_PW_split_10 : decode b_PW_split 10 = .ok (.new 109, 3) := by decide +kernel
theorem d_PW_split_13 : decode b_PW_split 13 = .ok (.dup, 1) := by decide +kernel
theorem d_PW_split_14 : decode b_PW_split 14 = .ok (.ldc 187, 2) := by decide +kernel
theorem d_PW_split_16 : decode b_PW_split 16 = .ok (.invokespecial 113, 3) := by decide +kernel
theorem d_PW_split_19 : decode b_PW_split 19 = .ok (.athrow, 1) := by decide +kernel
theorem d_PW_split_20 : decode b_PW_split 20 = .ok (.aload_n 0, 1) := by decide +kernel
theorem d_PW_split_21 : decode b_PW_split 21 = .ok (.getfield 79, 3) := by decide +kernel
theorem d_PW_split_24 : decode b_PW_split 24 = .ok (.invokevirtual 120, 3) := by decide +kernel
theorem d_PW_split_27 : decode b_PW_split 27 = .ok (.aload_n 0, 1) := by decide +kernel
theorem d_PW_split_28 : decode b_PW_split 28 = .ok (.getfield 79, 3) := by decide +kernel
theorem d_PW_split_31 : decode b_PW_split 31 = .ok (.iconst 0, 1) := by decide +kernel
theorem d_PW_split_32 : decode b_PW_split 32 = .ok (.invokevirtual 197, 3) := by decide +kernel
theorem d_PW_split_35 : decode b_PW_split 35 = .ok (.pop, 1) := by decide +kernel
theorem d_PW_split_36 : decode b_PW_split 36 = .ok (.iconst (-1), 1) := by decide +kernel
theorem d_PW_split_37 : decode b_PW_split 37 = .ok (.istore_n 3, 1) := by decide +kernel
theorem d_PW_split_38 : decode b_PW_split 38 = .ok (.iconst 0, 1) := by decide +kernel
theorem d_PW_split_39 : decode b_PW_split 39 = .ok (.istore 4, 2) := by decide +kernel
theorem d_PW_split_41 : decode b_PW_split 41 = .ok (.aload_n 0, 1) := by decide +kernel
theorem d_PW_split_42 : decode b_PW_split 42 = .ok (.getfield 55, 3) := by decide +kernel
theorem d_PW_split_45 : decode b_PW_split 45 = .ok (.aload_n 2, 1) := by decide +kernel
theorem d_PW_split_46 : decode b_PW_split 46 = .ok (.aload_n 0, 1) := by decide +kernel
theorem d_PW_split_47 : decode b_PW_split 47 = .ok (.getfield 38, 3) := by decide +kernel
theorem d_PW_split_50 : decode b_PW_split 50 = .ok (.iconst 0, 1) := by decide +kernel
theorem d_PW_split_51 : decode b_PW_split 51 = .ok (.iconst 0, 1) := by decide +kernel
theorem d_PW_split_52 : decode b_PW_split 52 = .ok (.aload_n 0, 1) := by decide +kernel
theorem d_PW_split_53 : decode b_PW_split 53 = .ok (.getfield 42, 3) := by decide +kernel
theorem d_PW_split_56 : decode b_PW_split 56 = .ok (.invokevirtual 189, 3) := by decide +kernel
theorem d_PW_split_59 : decode b_PW_split 59 = .ok (.iconst 0, 1) := by decide +kernel
theorem d_PW_split_60 : decode b_PW_split 60 = .ok (.istore 5, 2) := by decide +kernel
theorem d_PW_split_62 : decode b_PW_split 62 = .ok (.iload 5, 2) := by decide +kernel
theorem d_PW_split_64 : decode b_PW_split 64 = .ok (.aload_n 0, 1) := by decide +kernel
theorem d_PW_split_65 : decode b_PW_split 65 = .ok (.getfield 38, 3) := by decide +kernel
theorem d_PW_split_68 : decode b_PW_split 68 = .ok (.getfield 164, 3) := by decide +kernel
theorem d_PW_split_71 : decode b_PW_split 71 = .ok (.if_icmp .gt 107, 3) := by decide +kernel
theorem d_PW_split_74 : decode b_PW_split 74 = .ok (.aload_n 0, 1) := by decide +kernel
theorem d_PW_split_75 : decode b_PW_split 75 = .ok (.iload_n 3, 1) := by decide +kernel
theorem d_PW_split_76 : decode b_PW_split 76 = .ok (.invokevirtual 193, 3) := by decide +kernel
theorem d_PW_split_79 : decode b_PW_split 79 = .ok (.ifCond .eq 99, 3) := by decide +kernel
theorem d_PW_split_82 : decode b_PW_split 82 = .ok (.aload_n 0, 1) := by decide +kernel
theorem d_PW_split_83 : decode b_PW_split 83 = .ok (.getfield 42, 3) := by decide +kernel
theorem d_PW_split_86 : decode b_PW_split 86 = .ok (.iconst 1, 1) := by decide +kernel
theorem d_PW_split_87 : decode b_PW_split 87 = .ok (.iaload, 1) := by decide +kernel
theorem d_PW_split_88 : decode b_PW_split 88 = .ok (.istore_n 3, 1) := by decide +kernel
theorem d_PW_split_89 : decode b_PW_split 89 = .ok (.iinc 4 1, 3) := by decide +kernel
theorem d_PW_split_92 : decode b_PW_split 92 = .ok (.aload_n 0, 1) := by decide +kernel
theorem d_PW_split_93 : decode b_PW_split 93 = .ok (.getfield 42, 3) := by decide +kernel
theorem d_PW_split_96 : decode b_PW_split 96 = .ok (.iconst 0, 1) := by decide +kernel
theorem d_PW_split_97 : decode b_PW_split 97 = .ok (.iaload, 1) := by decide +kernel
theorem d_PW_split_98 : decode b_PW_split 98 = .ok (.aload_n 0, 1) := by decide +kernel
theorem d_PW_split_99 : decode b_PW_split 99 = .ok (.getfield 42, 3) := by decide +kernel
theorem d_PW_split_102 : decode b_PW_split 102 = .ok (.iconst 1, 1) := by decide +kernel
theorem d_PW_split_103 : decode b_PW_split 103 = .ok (.iaload, 1) := by decide +kernel
theorem d_PW_split_104 : decode b_PW_split 104 = .ok (.if_icmp .lt 28, 3) := by decide +kernel
theorem d_PW_split_107 : decode b_PW_split 107 = .ok (.aload_n 0, 1) := by decide +kernel
theorem d_PW_split_108 : decode b_PW_split 108 = .ok (.getfield 42, 3) := by decide +kernel
theorem d_PW_split_111 : decode b_PW_split 111 = .ok (.iconst 0, 1) := by decide +kernel
theorem d_PW_split_112 : decode b_PW_split 112 = .ok (.iaload, 1) := by decide +kernel
theorem d_PW_split_113 : decode b_PW_split 113 = .ok (.ifCond .le 23, 3) := by decide +kernel
theorem d_PW_split_116 : decode b_PW_split 116 = .ok (.aload_n 0, 1) := by decide +kernel
theorem d_PW_split_117 : decode b_PW_split 117 = .ok (.getfield 42, 3) := by decide +kernel
theorem d_PW_split_120 : decode b_PW_split 120 = .ok (.iconst 0, 1) := by decide +kernel
theorem d_PW_split_121 : decode b_PW_split 121 = .ok (.iaload, 1) := by decide +kernel
theorem d_PW_split_122 : decode b_PW_split 122 = .ok (.aload_n 0, 1) := by decide +kernel
theorem d_PW_split_123 : decode b_PW_split 123 = .ok (.getfield 38, 3) := by decide +kernel
theorem d_PW_split_126 : decode b_PW_split 126 = .ok (.getfield 164, 3) := by decide +kernel
theorem d_PW_split_129 : decode b_PW_split 129 = .ok (.if_icmp .ge 7, 3) := by decide +kernel
theorem d_PW_split_132 : decode b_PW_split 132 = .ok (.iconst 1, 1) := by decide +kernel
theorem d_PW_split_133 : decode b_PW_split 133 = .ok (.goto 4, 3) := by decide +kernel
theorem d_PW_split_136 : decode b_PW_split 136 = .ok (.iconst 0, 1) := by decide +kernel
theorem d_PW_split_137 : decode b_PW_split 137 = .ok (.istore 6, 2) := by decide +kernel
theorem d_PW_split_139 : decode b_PW_split 139 = .ok (.iload 6, 2) := by decide +kernel
theorem d_PW_split_141 : decode b_PW_split 141 = .ok (.ifCond .eq 31, 3) := by decide +kernel
theorem d_PW_split_144 : decode b_PW_split 144 = .ok (.aload_n 0, 1) := by decide +kernel
theorem d_PW_split_145 : decode b_PW_split 145 = .ok (.getfield 79, 3) := by decide +kernel
theorem d_PW_split_148 : decode b_PW_split 148 = .ok (.aload_n 0, 1) := by decide +kernel
theorem d_PW_split_149 : decode b_PW_split 149 = .ok (.getfield 42, 3) := by decide +kernel
theorem d_PW_split_152 : decode b_PW_split 152 = .ok (.iconst 0, 1) := by decide +kernel
theorem d_PW_split_153 : decode b_PW_split 153 = .ok (.iaload, 1) := by decide +kernel
theorem d_PW_split_154 : decode b_PW_split 154 = .ok (.invokevirtual 197, 3) := by decide +kernel
theorem d_PW_split_157 : decode b_PW_split 157 = .ok (.pop, 1) := by decide +kernel
theorem d_PW_split_158 : decode b_PW_split 158 = .ok (.aload_n 0, 1) := by decide +kernel
theorem d_PW_split_159 : decode b_PW_split 159 = .ok (.getfield 79, 3) := by decide +kernel
theorem d_PW_split_162 : decode b_PW_split 162 = .ok (.aload_n 0, 1) := by decide +kernel
theorem d_PW_split_163 : decode b_PW_split 163 = .ok (.getfield 42, 3) := by decide +kernel
theorem d_PW_split_166 : decode b_PW_split 166 = .ok (.iconst 1, 1) := by decide +kernel
theorem d_PW_split_167 : decode b_PW_split 167 = .ok (.iaload, 1) := by decide +kernel
theorem d_PW_split_168 : decode b_PW_split 168 = .ok (.invokevirtual 197, 3) := by decide +kernel
theorem d_PW_split_171 : decode b_PW_split 171 = .ok (.pop, 1) := by decide +kernel
theorem d_PW_split_172 : decode b_PW_split 172 = .ok (.iinc 5 1, 3) := by decide +kernel
theorem d_PW_split_175 : decode b_PW_split 175 = .ok (.goto (-113), 3) := by decide +kernel
theorem d_PW_split_178 : decode b_PW_split 178 = .ok (.aload_n 0, 1) := by decide +kernel
theorem d_PW_split_179 : decode b_PW_split 179 = .ok (.getfield 79, 3) := by decide +kernel
theorem d_PW_split_182 : decode b_PW_split 182 = .ok (.aload_n 0, 1) := by decide +kernel
theorem d_PW_split_183 : decode b_PW_split 183 = .ok (.getfield 38, 3) := by decide +kernel
theorem d_PW_split_186 : decode b_PW_split 186 = .ok (.getfield 164, 3) := by decide +kernel
theorem d_PW_split_189 : decode b_PW_split 189 = .ok (.invokevirtual 197, 3) := by decide +kernel
theorem d_PW_split_192 : decode b_PW_split 192 = .ok (.pop, 1) := by decide +kernel
theorem d_PW_split_193 : decode b_PW_split 193 = .ok (.aload_n 0, 1) := by decide +kernel
theorem d_PW_split_194 : decode b_PW_split 194 = .ok (.aload_n 2, 1) := by decide +kernel
theorem d_PW_split_195 : decode b_PW_split 195 = .ok (.getfield 152, 3) := by decide +kernel
theorem d_PW_split_198 : decode b_PW_split 198 = .ok (.iload 4, 2) := by decide +kernel
theorem d_PW_split_200 : decode b_PW_split 200 = .ok (.invokevirtual 175, 3) := by decide +kernel
theorem d_PW_split_203 : decode b_PW_split 203 = .ok (.aload_n 0, 1) := by decide +kernel
theorem d_PW_split_204 : decode b_PW_split 204 = .ok (.getfield 79, 3) := by decide +kernel
theorem d_PW_split_207 : decode b_PW_split 207 = .ok (.getfield 101, 3) := by decide +kernel
theorem d_PW_split_210 : decode b_PW_split 210 = .ok (.iconst 2, 1) := by decide +kernel
theorem d_PW_split_211 : decode b_PW_split 211 = .ok (.idiv, 1) := by decide +kernel
theorem d_PW_split_212 : decode b_PW_split 212 = .ok (.ireturn, 1) := by decide +kernel
theorem d_MO_split1_0 : decode b_MO_split1 0 = .ok (.aload_n 0, 1) := by decide +kernel
theorem d_MO_split1_1 : decode b_MO_split1 1 = .ok (.aload_n 0, 1) := by decide +kernel
theorem d_MO_split1_2 : decode b_MO_split1 2 = .ok (.iload_n 1, 1) := by decide +kernel
theorem d_MO_split1_3 : decode b_MO_split1 3 = .ok (.invokevirtual 507, 3) := by decide +kernel
theorem d_MO_split1_6 : decode b_MO_split1 6 = .ok (.ifCond .eq 7, 3) := by decide +kernel
theorem d_MO_split1_9 : decode b_MO_split1 9 = .ok (.iconst 0, 1) := by decide +kernel
theorem d_MO_split1_10 : decode b_MO_split1 10 = .ok (.goto 4, 3) := by decide +kernel
theorem d_MO_split1_13 : decode b_MO_split1 13 = .ok (.iconst 1, 1) := by decide +kernel
theorem d_MO_split1_14 : decode b_MO_split1 14 = .ok (.putfield 220, 3) := by decide +kernel
theorem d_MO_split1_17 : decode b_MO_split1 17 = .ok (.aload_n 0, 1) := by decide +kernel
theorem d_MO_split1_18 : decode b_MO_split1 18 = .ok (.getfield 220, 3) := by decide +kernel
theorem d_MO_split1_21 : decode b_MO_split1 21 = .ok (.ifCond .le 5, 3) := by decide +kernel
theorem d_MO_split1_24 : decode b_MO_split1 24 = .ok (.iconst 0, 1) := by decide +kernel
theorem d_MO_split1_25 : decode b_MO_split1 25 = .ok (.ireturn, 1) := by decide +kernel
theorem d_MO_split1_26 : decode b_MO_split1 26 = .ok (.aload_n 0, 1) := by decide +kernel
theorem d_MO_split1_27 : decode b_MO_split1 27 = .ok (.iconst 0, 1) := by decide +kernel
theorem d_MO_split1_28 : decode b_MO_split1 28 = .ok (.putfield 588, 3) := by decide +kernel
theorem d_MO_split1_31 : decode b_MO_split1 31 = .ok (.iconst 0, 1) := by decide +kernel
theorem d_MO_split1_32 : decode b_MO_split1 32 = .ok (.istore_n 2, 1) := by decide +kernel
theorem d_MO_split1_33 : decode b_MO_split1 33 = .ok (.aload_n 0, 1) := by decide +kernel
theorem d_MO_split1_34 : decode b_MO_split1 34 = .ok (.iload_n 1, 1) := by decide +kernel
theorem d_MO_split1_35 : decode b_MO_split1 35 = .ok (.invokevirtual 582, 3) := by decide +kernel
theorem d_MO_split1_38 : decode b_MO_split1 38 = .ok (.aload_n 0, 1) := by decide +kernel
theorem d_MO_split1_39 : decode b_MO_split1 39 = .ok (.iload_n 1, 1) := by decide +kernel
theorem d_MO_split1_40 : decode b_MO_split1 40 = .ok (.invokevirtual 585, 3) := by decide +kernel
theorem d_MO_split1_43 : decode b_MO_split1 43 = .ok (.ifCond .eq 64, 3) := by decide +kernel
theorem d_MO_split1_46 : decode b_MO_split1 46 = .ok (.aload_n 0, 1) := by decide +kernel
theorem d_MO_split1_47 : decode b_MO_split1 47 = .ok (.getfield 190, 3) := by decide +kernel
theorem d_MO_split1_50 : decode b_MO_split1 50 = .ok (.iconst 0, 1) := by decide +kernel
theorem d_MO_split1_51 : decode b_MO_split1 51 = .ok (.iaload, 1) := by decide +kernel
theorem d_MO_split1_52 : decode b_MO_split1 52 = .ok (.aload_n 0, 1) := by decide +kernel
theorem d_MO_split1_53 : decode b_MO_split1 53 = .ok (.getfield 190, 3) := by decide +kernel
theorem d_MO_split1_56 : decode b_MO_split1 56 = .ok (.iconst 1, 1) := by decide +kernel
theorem d_MO_split1_57 : decode b_MO_split1 57 = .ok (.iaload, 1) := by decide +kernel
theorem d_MO_split1_58 : decode b_MO_split1 58 = .ok (.if_icmp .ne 28, 3) := by decide +kernel
theorem d_MO_split1_61 : decode b_MO_split1 61 = .ok (.aload_n 0, 1) := by decide +kernel
theorem d_MO_split1_62 : decode b_MO_split1 62 = .ok (.getfield 190, 3) := by decide +kernel
theorem d_MO_split1_65 : decode b_MO_split1 65 = .ok (.iconst 0, 1) := by decide +kernel
theorem d_MO_split1_66 : decode b_MO_split1 66 = .ok (.iaload, 1) := by decide +kernel
theorem d_MO_split1_67 : decode b_MO_split1 67 = .ok (.ifCond .eq (-29), 3) := by decide +kernel
theorem d_MO_split1_70 : decode b_MO_split1 70 = .ok (.aload_n 0, 1) := by decide +kernel
theorem d_MO_split1_71 : decode b_MO_split1 71 = .ok (.getfield 190, 3) := by decide +kernel
theorem d_MO_split1_74 : decode b_MO_split1 74 = .ok (.iconst 0, 1) := by decide +kernel
theorem d_MO_split1_75 : decode b_MO_split1 75 = .ok (.iaload, 1) := by decide +kernel
theorem d_MO_split1_76 : decode b_MO_split1 76 = .ok (.aload_n 0, 1) := by decide +kernel
theorem d_MO_split1_77 : decode b_MO_split1 77 = .ok (.getfield 510, 3) := by decide +kernel
theorem d_MO_split1_80 : decode b_MO_split1 80 = .ok (.if_icmp .ne 6, 3) := by decide +kernel
theorem d_MO_split1_83 : decode b_MO_split1 83 = .ok (.goto (-45), 3) := by decide +kernel
theorem d_MO_split1_86 : decode b_MO_split1 86 = .ok (.aload_n 0, 1) := by decide +kernel
theorem d_MO_split1_87 : decode b_MO_split1 87 = .ok (.iload_n 2, 1) := by decide +kernel
theorem d_MO_split1_88 : decode b_MO_split1 88 = .ok (.aload_n 0, 1) := by decide +kernel
theorem d_MO_split1_89 : decode b_MO_split1 89 = .ok (.getfield 190, 3) := by decide +kernel
theorem d_MO_split1_92 : decode b_MO_split1 92 = .ok (.iconst 0, 1) := by decide +kernel
theorem d_MO_split1_93 : decode b_MO_split1 93 = .ok (.iaload, 1) := by decide +kernel
theorem d_MO_split1_94 : decode b_MO_split1 94 = .ok (.invokevirtual 591, 3) := by decide +kernel
theorem d_MO_split1_97 : decode b_MO_split1 97 = .ok (.aload_n 0, 1) := by decide +kernel
theorem d_MO_split1_98 : decode b_MO_split1 98 = .ok (.getfield 190, 3) := by decide +kernel
theorem d_MO_split1_101 : decode b_MO_split1 101 = .ok (.iconst 1, 1) := by decide +kernel
theorem d_MO_split1_102 : decode b_MO_split1 102 = .ok (.iaload, 1) := by decide +kernel
theorem d_MO_split1_103 : decode b_MO_split1 103 = .ok (.istore_n 2, 1) := by decide +kernel
theorem d_MO_split1_104 : decode b_MO_split1 104 = .ok (.goto (-66), 3) := by decide +kernel
theorem d_MO_split1_107 : decode b_MO_split1 107 = .ok (.aload_n 0, 1) := by decide +kernel
theorem d_MO_split1_108 : decode b_MO_split1 108 = .ok (.iload_n 2, 1) := by decide +kernel
theorem d_MO_split1_109 : decode b_MO_split1 109 = .ok (.aload_n 0, 1) := by decide +kernel
theorem d_MO_split1_110 : decode b_MO_split1 110 = .ok (.getfield 510, 3) := by decide +kernel
theorem d_MO_split1_113 : decode b_MO_split1 113 = .ok (.invokevirtual 591, 3) := by decide +kernel
theorem d_MO_split1_116 : decode b_MO_split1 116 = .ok (.aload_n 0, 1) := by decide +kernel
theorem d_MO_split1_117 : decode b_MO_split1 117 = .ok (.getfield 588, 3) := by decide +kernel
theorem d_MO_split1_120 : decode b_MO_split1 120 = .ok (.ireturn, 1) := by decide +kernel
theorem d_PW_piece_0 : decode b_PW_piece 0 = .ok (.aload_n 0, 1) := by decide +kernel
theorem d_PW_piece_1 : decode b_PW_piece 1 = .ok (.getfield 79, 3) := by decide +kernel
theorem d_PW_piece_4 : decode b_PW_piece 4 = .ok (.iload_n 1, 1) := by decide +kernel
theorem d_PW_piece_5 : decode b_PW_piece 5 = .ok (.iload_n 2, 1) := by decide +kernel
theorem d_PW_piece_6 : decode b_PW_piece 6 = .ok (.invokestatic 200, 3) := by decide +kernel
theorem d_PW_piece_9 : decode b_PW_piece 9 = .ok (.ireturn, 1) := by decide +kernel
theorem d_MO_piece_0 : decode b_MO_piece 0 = .ok (.aload_n 0, 1) := by decide +kernel
theorem d_MO_piece_1 : decode b_MO_piece 1 = .ok (.iconst 0, 1) := by decide +kernel
theorem d_MO_piece_2 : decode b_MO_piece 2 = .ok (.putfield 220, 3) := by decide +kernel
theorem d_MO_piece_5 : decode b_MO_piece 5 = .ok (.iload_n 1, 1) := by decide +kernel
theorem d_MO_piece_6 : decode b_MO_piece 6 = .ok (.ifCond .lt 20, 3) := by decide +kernel
theorem d_MO_piece_9 : decode b_MO_piece 9 = .ok (.iload_n 1, 1) := by decide +kernel
theorem d_MO_piece_10 : decode b_MO_piece 10 = .ok (.aload_n 0, 1) := by decide +kernel
theorem d_MO_piece_11 : decode b_MO_piece 11 = .ok (.getfield 588, 3) := by decide +kernel
theorem d_MO_piece_14 : decode b_MO_piece 14 = .ok (.if_icmp .ge 12, 3) := by decide +kernel
theorem d_MO_piece_17 : decode b_MO_piece 17 = .ok (.iload_n 2, 1) := by decide +kernel
theorem d_MO_piece_18 : decode b_MO_piece 18 = .ok (.ifCond .lt 8, 3) := by decide +kernel
theorem d_MO_piece_21 : decode b_MO_piece 21 = .ok (.iload_n 2, 1) := by decide +kernel
theorem d_MO_piece_22 : decode b_MO_piece 22 = .ok (.iconst 1, 1) := by decide +kernel
theorem d_MO_piece_23 : decode b_MO_piece 23 = .ok (.if_icmp .le 7, 3) := by decide +kernel
theorem d_MO_piece_26 : decode b_MO_piece 26 = .ok (.iconst (-1), 1) := by decide +kernel
theorem d_MO_piece_27 : decode b_MO_piece 27 = .ok (.goto 13, 3) := by decide +kernel
theorem d_MO_piece_30 : decode b_MO_piece 30 = .ok (.aload_n 0, 1) := by decide +kernel
theorem d_MO_piece_31 : decode b_MO_piece 31 = .ok (.getfield 214, 3) := by decide +kernel
theorem d_MO_piece_34 : decode b_MO_piece 34 = .ok (.iconst 2, 1) := by decide +kernel
theorem d_MO_piece_35 : decode b_MO_piece 35 = .ok (.iload_n 1, 1) := by decide +kernel
theorem d_MO_piece_36 : decode b_MO_piece 36 = .ok (.imul, 1) := by decide +kernel
theorem d_MO_piece_37 : decode b_MO_piece 37 = .ok (.iload_n 2, 1) := by decide +kernel
theorem d_MO_piece_38 : decode b_MO_piece 38 = .ok (.iadd, 1) := by decide +kernel
theorem d_MO_piece_39 : decode b_MO_piece 39 = .ok (.iaload, 1) := by decide +kernel
theorem d_MO_piece_40 : decode b_MO_piece 40 = .ok (.ireturn, 1) := by decide +kernel
theorem d_PW_which_0 : decode b_PW_which 0 = .ok (.iconst 0, 1) := by decide +kernel
theorem d_PW_which_1 : decode b_PW_which 1 = .ok (.istore_n 3, 1) := by decide +kernel
theorem d_PW_which_2 : decode b_PW_which 2 = .ok (.iconst 0, 1) := by decide +kernel
theorem d_PW_which_3 : decode b_PW_which 3 = .ok (.istore 4, 2) := by decide +kernel
theorem d_PW_which_5 : decode b_PW_which 5 = .ok (.iconst 0, 1) := by decide +kernel
theorem d_PW_which_6 : decode b_PW_which 6 = .ok (.istore 5, 2) := by decide +kernel
theorem d_PW_which_8 : decode b_PW_which 8 = .ok (.iconst 0, 1) := by decide +kernel
theorem d_PW_which_9 : decode b_PW_which 9 = .ok (.istore 6, 2) := by decide +kernel
theorem d_PW_which_11 : decode b_PW_which 11 = .ok (.iload 6, 2) := by decide +kernel
theorem d_PW_which_13 : decode b_PW_which 13 = .ok (.bipush 6, 2) := by decide +kernel
theorem d_PW_which_15 : decode b_PW_which 15 = .ok (.if_icmp .ge 132, 3) := by decide +kernel
theorem d_PW_which_18 : decode b_PW_which 18 = .ok (.aload_n 0, 1) := by decide +kernel
theorem d_PW_which_19 : decode b_PW_which 19 = .ok (.getfield 31, 3) := by decide +kernel
theorem d_PW_which_22 : decode b_PW_which 22 = .ok (.iload 6, 2) := by decide +kernel
theorem d_PW_which_24 : decode b_PW_which 24 = .ok (.aaload, 1) := by decide +kernel
theorem d_PW_which_25 : decode b_PW_which 25 = .ok (.astore 7, 2) := by decide +kernel
theorem d_PW_which_27 : decode b_PW_which 27 = .ok (.aload 7, 2) := by decide +kernel
theorem d_PW_which_29 : decode b_PW_which 29 = .ok (.ifnull 112, 3) := by decide +kernel
theorem d_PW_which_32 : decode b_PW_which 32 = .ok (.iload_n 1, 1) := by decide +kernel
theorem d_PW_which_33 : decode b_PW_which 33 = .ok (.iload 6, 2) := by decide +kernel
theorem d_PW_which_35 : decode b_PW_which 35 = .ok (.ishr, 1) := by decide +kernel
theorem d_PW_which_36 : decode b_PW_which 36 = .ok (.iconst 1, 1) := by decide +kernel
theorem d_PW_which_37 : decode b_PW_which 37 = .ok (.iand, 1) := by decide +kernel
theorem d_PW_which_38 : decode b_PW_which 38 = .ok (.ifCond .eq 103, 3) := by decide +kernel
theorem d_PW_which_41 : decode b_PW_which 41 = .ok (.iload 4, 2) := by decide +kernel
theorem d_PW_which_43 : decode b_PW_which 43 = .ok (.aload 7, 2) := by decide +kernel
theorem d_PW_which_45 : decode b_PW_which 45 = .ok (.getfield 152, 3) := by decide +kernel
theorem d_PW_which_48 : decode b_PW_which 48 = .ok (.iadd, 1) := by decide +kernel
theorem d_PW_which_49 : decode b_PW_which 49 = .ok (.istore 4, 2) := by decide +kernel
theorem d_PW_which_51 : decode b_PW_which 51 = .ok (.iinc 5 1, 3) := by decide +kernel
theorem d_PW_which_54 : decode b_PW_which 54 = .ok (.iload_n 2, 1) := by decide +kernel
theorem d_PW_which_55 : decode b_PW_which 55 = .ok (.ifCond .eq 7, 3) := by decide +kernel
theorem d_PW_which_58 : decode b_PW_which 58 = .ok (.iconst 2, 1) := by decide +kernel
theorem d_PW_which_59 : decode b_PW_which 59 = .ok (.goto 4, 3) := by decide +kernel
theorem d_PW_which_62 : decode b_PW_which 62 = .ok (.iconst 0, 1) := by decide +kernel
theorem d_PW_which_63 : decode b_PW_which 63 = .ok (.istore 8, 2) := by decide +kernel
theorem d_PW_which_65 : decode b_PW_which 65 = .ok (.aload_n 0, 1) := by decide +kernel
theorem d_PW_which_66 : decode b_PW_which 66 = .ok (.getfield 69, 3) := by decide +kernel
theorem d_PW_which_69 : decode b_PW_which 69 = .ok (.aload 7, 2) := by decide +kernel
theorem d_PW_which_71 : decode b_PW_which 71 = .ok (.aload_n 0, 1) := by decide +kernel
theorem d_PW_which_72 : decode b_PW_which 72 = .ok (.getfield 38, 3) := by decide +kernel
theorem d_PW_which_75 : decode b_PW_which 75 = .ok (.iload 8, 2) := by decide +kernel
theorem d_PW_which_77 : decode b_PW_which 77 = .ok (.iconst 0, 1) := by decide +kernel
theorem d_PW_which_78 : decode b_PW_which 78 = .ok (.invokevirtual 224, 3) := by decide +kernel
theorem d_PW_which_81 : decode b_PW_which 81 = .ok (.istore 9, 2) := by decide +kernel
theorem d_PW_which_83 : decode b_PW_which 83 = .ok (.iload 9, 2) := by decide +kernel
theorem d_PW_which_85 : decode b_PW_which 85 = .ok (.bipush (-2), 2) := by decide +kernel
theorem d_PW_which_87 : decode b_PW_which 87 = .ok (.if_icmp .ne 25, 3) := by decide +kernel
theorem d_PW_which_90 : decode b_PW_which 90 = .ok (.aload_n 0, 1) := by decide +kernel
theorem d_PW_which_91 : decode b_PW_which 91 = .ok (.aload 7, 2) := by decide +kernel
theorem d_PW_which_93 : decode b_PW_which 93 = .ok (.iload 8, 2) := by decide +kernel
theorem d_PW_which_95 : decode b_PW_which 95 = .ok (.iconst 0, 1) := by decide +kernel
theorem d_PW_which_96 : decode b_PW_which 96 = .ok (.iconst 0, 1) := by decide +kernel
theorem d_PW_which_97 : decode b_PW_which 97 = .ok (.invokevirtual 171, 3) := by decide +kernel
theorem d_PW_which_100 : decode b_PW_which 100 = .ok (.iconst (-1), 1) := by decide +kernel
theorem d_PW_which_101 : decode b_PW_which 101 = .ok (.if_icmp .eq 7, 3) := by decide +kernel
theorem d_PW_which_104 : decode b_PW_which 104 = .ok (.iconst 1, 1) := by decide +kernel
theorem d_PW_which_105 : decode b_PW_which 105 = .ok (.goto 18, 3) := by decide +kernel
theorem d_PW_which_108 : decode b_PW_which 108 = .ok (.iconst 0, 1) := by decide +kernel
theorem d_PW_which_109 : decode b_PW_which 109 = .ok (.goto 14, 3) := by decide +kernel
theorem d_PW_which_112 : decode b_PW_which 112 = .ok (.iload 9, 2) := by decide +kernel
theorem d_PW_which_114 : decode b_PW_which 114 = .ok (.iconst 1, 1) := by decide +kernel
theorem d_PW_which_115 : decode b_PW_which 115 = .ok (.if_icmp .ne 7, 3) := by decide +kernel
theorem d_PW_which_118 : decode b_PW_which 118 = .ok (.iconst 1, 1) := by decide +kernel
theorem d_PW_which_119 : decode b_PW_which 119 = .ok (.goto 4, 3) := by decide +kernel
theorem d_PW_which_122 : decode b_PW_which 122 = .ok (.iconst 0, 1) := by decide +kernel
theorem d_PW_which_123 : decode b_PW_which 123 = .ok (.istore 10, 2) := by decide +kernel
theorem d_PW_which_125 : decode b_PW_which 125 = .ok (.iload_n 3, 1) := by decide +kernel
theorem d_PW_which_126 : decode b_PW_which 126 = .ok (.iload 10, 2) := by decide +kernel
theorem d_PW_which_128 : decode b_PW_which 128 = .ok (.ifCond .eq 10, 3) := by decide +kernel
theorem d_PW_which_131 : decode b_PW_which 131 = .ok (.iconst 1, 1) := by decide +kernel
theorem d_PW_which_132 : decode b_PW_which 132 = .ok (.iload 6, 2) := by decide +kernel
theorem d_PW_which_134 : decode b_PW_which 134 = .ok (.ishl, 1) := by decide +kernel
theorem d_PW_which_135 : decode b_PW_which 135 = .ok (.goto 4, 3) := by decide +kernel
theorem d_PW_which_138 : decode b_PW_which 138 = .ok (.iconst 0, 1) := by decide +kernel
theorem d_PW_which_139 : decode b_PW_which 139 = .ok (.ior, 1) := by decide +kernel
theorem d_PW_which_140 : decode b_PW_which 140 = .ok (.istore_n 3, 1) := by decide +kernel
theorem d_PW_which_141 : decode b_PW_which 141 = .ok (.iinc 6 1, 3) := by decide +kernel
theorem d_PW_which_144 : decode b_PW_which 144 = .ok (.goto (-133), 3) := by decide +kernel
theorem d_PW_which_147 : decode b_PW_which 147 = .ok (.aload_n 0, 1) := by decide +kernel
theorem d_PW_which_148 : decode b_PW_which 148 = .ok (.iload 4, 2) := by decide +kernel
theorem d_PW_which_150 : decode b_PW_which 150 = .ok (.iload 5, 2) := by decide +kernel
theorem d_PW_which_152 : decode b_PW_which 152 = .ok (.invokevirtual 175, 3) := by decide +kernel
theorem d_PW_which_155 : decode b_PW_which 155 = .ok (.iload_n 3, 1) := by decide +kernel
theorem d_PW_which_156 : decode b_PW_which 156 = .ok (.ireturn, 1) := by decide +kernel
theorem d_PW_settle_0 : decode b_PW_settle 0 = .ok (.ldc2_w 253, 3) := by decide +kernel
theorem d_PW_settle_3 : decode b_PW_settle 3 = .ok (.iload_n 1, 1) := by decide +kernel
theorem d_PW_settle_4 : decode b_PW_settle 4 = .ok (.bipush 20, 2) := by decide +kernel
theorem d_PW_settle_6 : decode b_PW_settle 6 = .ok (.iadd, 1) := by decide +kernel
theorem d_PW_settle_7 : decode b_PW_settle 7 = .ok (.i2l, 1) := by decide +kernel
theorem d_PW_settle_8 : decode b_PW_settle 8 = .ok (.lmul, 1) := by decide +kernel
theorem d_PW_settle_9 : decode b_PW_settle 9 = .ok (.aload_n 0, 1) := by decide +kernel
theorem d_PW_settle_10 : decode b_PW_settle 10 = .ok (.getfield 38, 3) := by decide +kernel
theorem d_PW_settle_13 : decode b_PW_settle 13 = .ok (.getfield 164, 3) := by decide +kernel
theorem d_PW_settle_16 : decode b_PW_settle 16 = .ok (.bipush 20, 2) := by decide +kernel
theorem d_PW_settle_18 : decode b_PW_settle 18 = .ok (.iadd, 1) := by decide +kernel
theorem d_PW_settle_19 : decode b_PW_settle 19 = .ok (.i2l, 1) := by decide +kernel
theorem d_PW_settle_20 : decode b_PW_settle 20 = .ok (.lmul, 1) := by decide +kernel
theorem d_PW_settle_21 : decode b_PW_settle 21 = .ok (.iload_n 2, 1) := by decide +kernel
theorem d_PW_settle_22 : decode b_PW_settle 22 = .ok (.iconst 1, 1) := by decide +kernel
theorem d_PW_settle_23 : decode b_PW_settle 23 = .ok (.iadd, 1) := by decide +kernel
theorem d_PW_settle_24 : decode b_PW_settle 24 = .ok (.i2l, 1) := by decide +kernel
theorem d_PW_settle_25 : decode b_PW_settle 25 = .ok (.lmul, 1) := by decide +kernel
theorem d_PW_settle_26 : decode b_PW_settle 26 = .ok (.lstore_n 3, 1) := by decide +kernel
theorem d_PW_settle_27 : decode b_PW_settle 27 = .ok (.aload_n 0, 1) := by decide +kernel
theorem d_PW_settle_28 : decode b_PW_settle 28 = .ok (.getfield 48, 3) := by decide +kernel
theorem d_PW_settle_31 : decode b_PW_settle 31 = .ok (.getfield 255, 3) := by decide +kernel
theorem d_PW_settle_34 : decode b_PW_settle 34 = .ok (.aload_n 0, 1) := by decide +kernel
theorem d_PW_settle_35 : decode b_PW_settle 35 = .ok (.getfield 55, 3) := by decide +kernel
theorem d_PW_settle_38 : decode b_PW_settle 38 = .ok (.getfield 259, 3) := by decide +kernel
theorem d_PW_settle_41 : decode b_PW_settle 41 = .ok (.ladd, 1) := by decide +kernel
theorem d_PW_settle_42 : decode b_PW_settle 42 = .ok (.aload_n 0, 1) := by decide +kernel
theorem d_PW_settle_43 : decode b_PW_settle 43 = .ok (.getfield 62, 3) := by decide +kernel
theorem d_PW_settle_46 : decode b_PW_settle 46 = .ok (.getfield 260, 3) := by decide +kernel
theorem d_PW_settle_49 : decode b_PW_settle 49 = .ok (.ladd, 1) := by decide +kernel
theorem d_PW_settle_50 : decode b_PW_settle 50 = .ok (.aload_n 0, 1) := by decide +kernel
theorem d_PW_settle_51 : decode b_PW_settle 51 = .ok (.getfield 69, 3) := by decide +kernel
theorem d_PW_settle_54 : decode b_PW_settle 54 = .ok (.getfield 261, 3) := by decide +kernel
theorem d_PW_settle_57 : decode b_PW_settle 57 = .ok (.ladd, 1) := by decide +kernel
theorem d_PW_settle_58 : decode b_PW_settle 58 = .ok (.lstore 5, 2) := by decide +kernel
theorem d_PW_settle_60 : decode b_PW_settle 60 = .ok (.lload 5, 2) := by decide +kernel
theorem d_PW_settle_62 : decode b_PW_settle 62 = .ok (.lload_n 3, 1) := by decide +kernel
theorem d_PW_settle_63 : decode b_PW_settle 63 = .ok (.lcmp, 1) := by decide +kernel
theorem d_PW_settle_64 : decode b_PW_settle 64 = .ok (.ifCond .le 13, 3) := by decide +kernel
theorem d_PW_settle_67 : decode b_PW_settle 67 = .ok (.aload_n 0, 1) := by decide +kernel
theorem d_PW_settle_68 : decode b_PW_settle 68 = .ok (.dup, 1) := by decide +kernel
theorem d_PW_settle_69 : decode b_PW_settle 69 = .ok (.getfield 240, 3) := by decide +kernel
theorem d_PW_settle_72 : decode b_PW_settle 72 = .ok (.iconst 1, 1) := by decide +kernel
theorem d_PW_settle_73 : decode b_PW_settle 73 = .ok (.iadd, 1) := by decide +kernel
theorem d_PW_settle_74 : decode b_PW_settle 74 = .ok (.putfield 240, 3) := by decide +kernel
theorem d_PW_settle_77 : decode b_PW_settle 77 = .ok (.aload_n 0, 1) := by decide +kernel
theorem d_PW_settle_78 : decode b_PW_settle 78 = .ok (.getfield 48, 3) := by decide +kernel
theorem d_PW_settle_81 : decode b_PW_settle 81 = .ok (.lconst 0, 1) := by decide +kernel
theorem d_PW_settle_82 : decode b_PW_settle 82 = .ok (.putfield 255, 3) := by decide +kernel
theorem d_PW_settle_85 : decode b_PW_settle 85 = .ok (.aload_n 0, 1) := by decide +kernel
theorem d_PW_settle_86 : decode b_PW_settle 86 = .ok (.getfield 55, 3) := by decide +kernel
theorem d_PW_settle_89 : decode b_PW_settle 89 = .ok (.lconst 0, 1) := by decide +kernel
theorem d_PW_settle_90 : decode b_PW_settle 90 = .ok (.putfield 259, 3) := by decide +kernel
theorem d_PW_settle_93 : decode b_PW_settle 93 = .ok (.aload_n 0, 1) := by decide +kernel
theorem d_PW_settle_94 : decode b_PW_settle 94 = .ok (.getfield 62, 3) := by decide +kernel
theorem d_PW_settle_97 : decode b_PW_settle 97 = .ok (.lconst 0, 1) := by decide +kernel
theorem d_PW_settle_98 : decode b_PW_settle 98 = .ok (.putfield 260, 3) := by decide +kernel
theorem d_PW_settle_101 : decode b_PW_settle 101 = .ok (.aload_n 0, 1) := by decide +kernel
theorem d_PW_settle_102 : decode b_PW_settle 102 = .ok (.getfield 69, 3) := by decide +kernel
theorem d_PW_settle_105 : decode b_PW_settle 105 = .ok (.lconst 0, 1) := by decide +kernel
theorem d_PW_settle_106 : decode b_PW_settle 106 = .ok (.putfield 261, 3) := by decide +kernel
theorem d_PW_settle_109 : decode b_PW_settle 109 = .ok (.return_, 1) := by decide +kernel
theorem d_MO_which_0 : decode b_MO_which 0 = .ok (.aload_n 0, 1) := by decide +kernel
theorem d_MO_which_1 : decode b_MO_which 1 = .ok (.iconst 0, 1) := by decide +kernel
theorem d_MO_which_2 : decode b_MO_which 2 = .ok (.putfield 220, 3) := by decide +kernel
theorem d_MO_which_5 : decode b_MO_which 5 = .ok (.iconst 0, 1) := by decide +kernel
theorem d_MO_which_6 : decode b_MO_which 6 = .ok (.istore_n 3, 1) := by decide +kernel
theorem d_MO_which_7 : decode b_MO_which 7 = .ok (.iconst 0, 1) := by decide +kernel
theorem d_MO_which_8 : decode b_MO_which 8 = .ok (.istore 4, 2) := by decide +kernel
theorem d_MO_which_10 : decode b_MO_which 10 = .ok (.iload 4, 2) := by decide +kernel
theorem d_MO_which_12 : decode b_MO_which 12 = .ok (.bipush 6, 2) := by decide +kernel
theorem d_MO_which_14 : decode b_MO_which 14 = .ok (.if_icmp .ge 125, 3) := by decide +kernel
theorem d_MO_which_17 : decode b_MO_which 17 = .ok (.iload_n 1, 1) := by decide +kernel
