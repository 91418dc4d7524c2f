theorem d_PW_addTemplate_0 : decode b_PW_addTemplate 0 = .ok (.iconst 1, 1) := by decide +kernel
theorem d_PW_addTemplate_1 : decode b_PW_addTemplate 1 = .ok (.istore_n 1, 1) := by decide +kernel
theorem d_PW_addTemplate_2 : decode b_PW_addTemplate 2 = .ok (.iconst 0, 1) := by decide +kernel
theorem d_PW_addTemplate_3 : decode b_PW_addTemplate 3 = .ok (.istore_n 2, 1) := by decide +kernel
theorem d_PW_addTemplate_4 : decode b_PW_addTemplate 4 = .ok (.iload_n 2, 1) := by decide +kernel
theorem d_PW_addTemplate_5 : decode b_PW_addTemplate 5 = .ok (.aload_n 0, 1) := by decide +kernel
theorem d_PW_addTemplate_6 : decode b_PW_addTemplate 6 = .ok (.getfield 82, 3) := by decide +kernel
theorem d_PW_addTemplate_9 : decode b_PW_addTemplate 9 = .ok (.getfield 101, 3) := by decide +kernel
theorem d_PW_addTemplate_12 : decode b_PW_addTemplate 12 = .ok (.if_icmp .ge 96, 3) := by decide +kernel
theorem d_PW_addTemplate_15 : decode b_PW_addTemplate 15 = .ok (.iload_n 1, 1) := by decide +kernel
theorem d_PW_addTemplate_16 : decode b_PW_addTemplate 16 = .ok (.ifCond .eq 92, 3) := by decide +kernel
theorem d_PW_addTemplate_19 : decode b_PW_addTemplate 19 = .ok (.aload_n 0, 1) := by decide +kernel
theorem d_PW_addTemplate_20 : decode b_PW_addTemplate 20 = .ok (.getfield 82, 3) := by decide +kernel
theorem d_PW_addTemplate_23 : decode b_PW_addTemplate 23 = .ok (.getfield 272, 3) := by decide +kernel
theorem d_PW_addTemplate_26 : decode b_PW_addTemplate 26 = .ok (.iload_n 2, 1) := by decide +kernel
theorem d_PW_addTemplate_27 : decode b_PW_addTemplate 27 = .ok (.iaload, 1) := by decide +kernel
theorem d_PW_addTemplate_28 : decode b_PW_addTemplate 28 = .ok (.istore_n 3, 1) := by decide +kernel
theorem d_PW_addTemplate_29 : decode b_PW_addTemplate 29 = .ok (.iload_n 3, 1) := by decide +kernel
theorem d_PW_addTemplate_30 : decode b_PW_addTemplate 30 = .ok (.ifCond .lt 15, 3) := by decide +kernel
theorem d_PW_addTemplate_33 : decode b_PW_addTemplate 33 = .ok (.aload_n 0, 1) := by decide +kernel
theorem d_PW_addTemplate_34 : decode b_PW_addTemplate 34 = .ok (.getfield 88, 3) := by decide +kernel
theorem d_PW_addTemplate_37 : decode b_PW_addTemplate 37 = .ok (.iload_n 3, 1) := by decide +kernel
theorem d_PW_addTemplate_38 : decode b_PW_addTemplate 38 = .ok (.invokevirtual 197, 3) := by decide +kernel
theorem d_PW_addTemplate_41 : decode b_PW_addTemplate 41 = .ok (.istore_n 1, 1) := by decide +kernel
theorem d_PW_addTemplate_42 : decode b_PW_addTemplate 42 = .ok (.goto 60, 3) := by decide +kernel
theorem d_PW_addTemplate_45 : decode b_PW_addTemplate 45 = .ok (.iconst 2, 1) := by decide +kernel
theorem d_PW_addTemplate_46 : decode b_PW_addTemplate 46 = .ok (.iconst (-1), 1) := by decide +kernel
theorem d_PW_addTemplate_47 : decode b_PW_addTemplate 47 = .ok (.iload_n 3, 1) := by decide +kernel
theorem d_PW_addTemplate_48 : decode b_PW_addTemplate 48 = .ok (.isub, 1) := by decide +kernel
theorem d_PW_addTemplate_49 : decode b_PW_addTemplate 49 = .ok (.imul, 1) := by decide +kernel
theorem d_PW_addTemplate_50 : decode b_PW_addTemplate 50 = .ok (.istore 4, 2) := by decide +kernel
theorem d_PW_addTemplate_52 : decode b_PW_addTemplate 52 = .ok (.aload_n 0, 1) := by decide +kernel
theorem d_PW_addTemplate_53 : decode b_PW_addTemplate 53 = .ok (.getfield 42, 3) := by decide +kernel
theorem d_PW_addTemplate_56 : decode b_PW_addTemplate 56 = .ok (.iload 4, 2) := by decide +kernel
theorem d_PW_addTemplate_58 : decode b_PW_addTemplate 58 = .ok (.iaload, 1) := by decide +kernel
theorem d_PW_addTemplate_59 : decode b_PW_addTemplate 59 = .ok (.iconst (-1), 1) := by decide +kernel
theorem d_PW_addTemplate_60 : decode b_PW_addTemplate 60 = .ok (.if_icmp .eq 36, 3) := by decide +kernel
theorem d_PW_addTemplate_63 : decode b_PW_addTemplate 63 = .ok (.aload_n 0, 1) := by decide +kernel
theorem d_PW_addTemplate_64 : decode b_PW_addTemplate 64 = .ok (.getfield 88, 3) := by decide +kernel
theorem d_PW_addTemplate_67 : decode b_PW_addTemplate 67 = .ok (.aload_n 0, 1) := by decide +kernel
theorem d_PW_addTemplate_68 : decode b_PW_addTemplate 68 = .ok (.getfield 38, 3) := by decide +kernel
theorem d_PW_addTemplate_71 : decode b_PW_addTemplate 71 = .ok (.getfield 210, 3) := by decide +kernel
theorem d_PW_addTemplate_74 : decode b_PW_addTemplate 74 = .ok (.aload_n 0, 1) := by decide +kernel
theorem d_PW_addTemplate_75 : decode b_PW_addTemplate 75 = .ok (.getfield 42, 3) := by decide +kernel
theorem d_PW_addTemplate_78 : decode b_PW_addTemplate 78 = .ok (.iload 4, 2) := by decide +kernel
theorem d_PW_addTemplate_80 : decode b_PW_addTemplate 80 = .ok (.iaload, 1) := by decide +kernel
theorem d_PW_addTemplate_81 : decode b_PW_addTemplate 81 = .ok (.aload_n 0, 1) := by decide +kernel
theorem d_PW_addTemplate_82 : decode b_PW_addTemplate 82 = .ok (.getfield 42, 3) := by decide +kernel
theorem d_PW_addTemplate_85 : decode b_PW_addTemplate 85 = .ok (.iload 4, 2) := by decide +kernel
theorem d_PW_addTemplate_87 : decode b_PW_addTemplate 87 = .ok (.iconst 1, 1) := by decide +kernel
theorem d_PW_addTemplate_88 : decode b_PW_addTemplate 88 = .ok (.iadd, 1) := by decide +kernel
theorem d_PW_addTemplate_89 : decode b_PW_addTemplate 89 = .ok (.iaload, 1) := by decide +kernel
theorem d_PW_addTemplate_90 : decode b_PW_addTemplate 90 = .ok (.invokevirtual 105, 3) := by decide +kernel
theorem d_PW_addTemplate_93 : decode b_PW_addTemplate 93 = .ok (.ifCond .eq 7, 3) := by decide +kernel
theorem d_PW_addTemplate_96 : decode b_PW_addTemplate 96 = .ok (.iconst 1, 1) := by decide +kernel
theorem d_PW_addTemplate_97 : decode b_PW_addTemplate 97 = .ok (.goto 4, 3) := by decide +kernel
theorem d_PW_addTemplate_100 : decode b_PW_addTemplate 100 = .ok (.iconst 0, 1) := by decide +kernel
theorem d_PW_addTemplate_101 : decode b_PW_addTemplate 101 = .ok (.istore_n 1, 1) := by decide +kernel
theorem d_PW_addTemplate_102 : decode b_PW_addTemplate 102 = .ok (.iinc 2 1, 3) := by decide +kernel
theorem d_PW_addTemplate_105 : decode b_PW_addTemplate 105 = .ok (.goto (-101), 3) := by decide +kernel
theorem d_PW_addTemplate_108 : decode b_PW_addTemplate 108 = .ok (.iload_n 1, 1) := by decide +kernel
theorem d_PW_addTemplate_109 : decode b_PW_addTemplate 109 = .ok (.ireturn, 1) := by decide +kernel
theorem d_PW_replace_0 : decode b_PW_replace 0 = .ok (.aload_n 0, 1) := by decide +kernel
theorem d_PW_replace_1 : decode b_PW_replace 1 = .ok (.iload_n 1, 1) := by decide +kernel
theorem d_PW_replace_2 : decode b_PW_replace 2 = .ok (.invokevirtual 148, 3) := by decide +kernel
theorem d_PW_replace_5 : decode b_PW_replace 5 = .ok (.astore_n 2, 1) := by decide +kernel
theorem d_PW_replace_6 : decode b_PW_replace 6 = .ok (.aload_n 2, 1) := by decide +kernel
theorem d_PW_replace_7 : decode b_PW_replace 7 = .ok (.ifnonnull 13, 3) := by decide +kernel
theorem d_PW_replace_10 : decode b_PW_replace 10 = .ok (.new 109, 3) := by decide +kernel
theorem d_PW_replace_13 : decode b_PW_replace 13 = .ok (.dup, 1) := by decide +kernel
theorem d_PW_replace_14 : decode b_PW_replace 14 = .ok (.ldc 187, 2) := by decide +kernel
theorem d_PW_replace_16 : decode b_PW_replace 16 = .ok (.invokespecial 113, 3) := by decide +kernel
theorem d_PW_replace_19 : decode b_PW_replace 19 = .ok (.athrow, 1) := by decide +kernel
theorem d_PW_replace_20 : decode b_PW_replace 20 = .ok (.aload_n 0, 1) := by decide +kernel
theorem d_PW_replace_21 : decode b_PW_replace 21 = .ok (.aload_n 2, 1) := by decide +kernel
theorem d_PW_replace_22 : decode b_PW_replace 22 = .ok (.invokevirtual 204, 3) := by decide +kernel
theorem d_PW_replace_25 : decode b_PW_replace 25 = .ok (.istore_n 3, 1) := by decide +kernel
theorem d_PW_replace_26 : decode b_PW_replace 26 = .ok (.aload_n 0, 1) := by decide +kernel
theorem d_PW_replace_27 : decode b_PW_replace 27 = .ok (.getfield 18, 3) := by decide +kernel
theorem d_PW_replace_30 : decode b_PW_replace 30 = .ok (.invokevirtual 120, 3) := by decide +kernel
theorem d_PW_replace_33 : decode b_PW_replace 33 = .ok (.iload_n 3, 1) := by decide +kernel
theorem d_PW_replace_34 : decode b_PW_replace 34 = .ok (.ifCond .ne 13, 3) := by decide +kernel
theorem d_PW_replace_37 : decode b_PW_replace 37 = .ok (.new 109, 3) := by decide +kernel
theorem d_PW_replace_40 : decode b_PW_replace 40 = .ok (.dup, 1) := by decide +kernel
theorem d_PW_replace_41 : decode b_PW_replace 41 = .ok (.ldc 208, 2) := by decide +kernel
theorem d_PW_replace_43 : decode b_PW_replace 43 = .ok (.invokespecial 113, 3) := by decide +kernel
theorem d_PW_replace_46 : decode b_PW_replace 46 = .ok (.athrow, 1) := by decide +kernel
theorem d_PW_replace_47 : decode b_PW_replace 47 = .ok (.aload_n 0, 1) := by decide +kernel
theorem d_PW_replace_48 : decode b_PW_replace 48 = .ok (.getfield 88, 3) := by decide +kernel
theorem d_PW_replace_51 : decode b_PW_replace 51 = .ok (.invokevirtual 120, 3) := by decide +kernel
theorem d_PW_replace_54 : decode b_PW_replace 54 = .ok (.iconst (-1), 1) := by decide +kernel
theorem d_PW_replace_55 : decode b_PW_replace 55 = .ok (.istore 4, 2) := by decide +kernel
theorem d_PW_replace_57 : decode b_PW_replace 57 = .ok (.iconst 0, 1) := by decide +kernel
theorem d_PW_replace_58 : decode b_PW_replace 58 = .ok (.istore 5, 2) := by decide +kernel
theorem d_PW_replace_60 : decode b_PW_replace 60 = .ok (.iconst 1, 1) := by decide +kernel
theorem d_PW_replace_61 : decode b_PW_replace 61 = .ok (.istore 6, 2) := by decide +kernel
theorem d_PW_replace_63 : decode b_PW_replace 63 = .ok (.aload_n 0, 1) := by decide +kernel
theorem d_PW_replace_64 : decode b_PW_replace 64 = .ok (.getfield 55, 3) := by decide +kernel
theorem d_PW_replace_67 : decode b_PW_replace 67 = .ok (.aload_n 2, 1) := by decide +kernel
theorem d_PW_replace_68 : decode b_PW_replace 68 = .ok (.aload_n 0, 1) := by decide +kernel
theorem d_PW_replace_69 : decode b_PW_replace 69 = .ok (.getfield 38, 3) := by decide +kernel
theorem d_PW_replace_72 : decode b_PW_replace 72 = .ok (.iconst 0, 1) := by decide +kernel
theorem d_PW_replace_73 : decode b_PW_replace 73 = .ok (.iconst 0, 1) := by decide +kernel
theorem d_PW_replace_74 : decode b_PW_replace 74 = .ok (.aload_n 0, 1) := by decide +kernel
theorem d_PW_replace_75 : decode b_PW_replace 75 = .ok (.getfield 42, 3) := by decide +kernel
theorem d_PW_replace_78 : decode b_PW_replace 78 = .ok (.invokevirtual 189, 3) := by decide +kernel
theorem d_PW_replace_81 : decode b_PW_replace 81 = .ok (.iconst 0, 1) := by decide +kernel
theorem d_PW_replace_82 : decode b_PW_replace 82 = .ok (.istore 7, 2) := by decide +kernel
theorem d_PW_replace_84 : decode b_PW_replace 84 = .ok (.iload 7, 2) := by decide +kernel
theorem d_PW_replace_86 : decode b_PW_replace 86 = .ok (.aload_n 0, 1) := by decide +kernel
theorem d_PW_replace_87 : decode b_PW_replace 87 = .ok (.getfield 38, 3) := by decide +kernel
theorem d_PW_replace_90 : decode b_PW_replace 90 = .ok (.getfield 164, 3) := by decide +kernel
theorem d_PW_replace_93 : decode b_PW_replace 93 = .ok (.if_icmp .gt 77, 3) := by decide +kernel
theorem d_PW_replace_96 : decode b_PW_replace 96 = .ok (.iload 6, 2) := by decide +kernel
theorem d_PW_replace_98 : decode b_PW_replace 98 = .ok (.ifCond .eq 72, 3) := by decide +kernel
theorem d_PW_replace_101 : decode b_PW_replace 101 = .ok (.aload_n 0, 1) := by decide +kernel
theorem d_PW_replace_102 : decode b_PW_replace 102 = .ok (.iload 4, 2) := by decide +kernel
theorem d_PW_replace_104 : decode b_PW_replace 104 = .ok (.invokevirtual 193, 3) := by decide +kernel
theorem d_PW_replace_107 : decode b_PW_replace 107 = .ok (.ifCond .eq 63, 3) := by decide +kernel
theorem d_PW_replace_110 : decode b_PW_replace 110 = .ok (.aload_n 0, 1) := by decide +kernel
theorem d_PW_replace_111 : decode b_PW_replace 111 = .ok (.getfield 88, 3) := by decide +kernel
theorem d_PW_replace_114 : decode b_PW_replace 114 = .ok (.aload_n 0, 1) := by decide +kernel
theorem d_PW_replace_115 : decode b_PW_replace 115 = .ok (.getfield 38, 3) := by decide +kernel
theorem d_PW_replace_118 : decode b_PW_replace 118 = .ok (.getfield 210, 3) := by decide +kernel
theorem d_PW_replace_121 : decode b_PW_replace 121 = .ok (.iload 4, 2) := by decide +kernel
theorem d_PW_replace_123 : decode b_PW_replace 123 = .ok (.iconst 0, 1) := by decide +kernel
theorem d_PW_replace_124 : decode b_PW_replace 124 = .ok (.invokestatic 213, 3) := by decide +kernel
theorem d_PW_replace_127 : decode b_PW_replace 127 = .ok (.aload_n 0, 1) := by decide +kernel
theorem d_PW_replace_128 : decode b_PW_replace 128 = .ok (.getfield 42, 3) := by decide +kernel
theorem d_PW_replace_131 : decode b_PW_replace 131 = .ok (.iconst 0, 1) := by decide +kernel
theorem d_PW_replace_132 : decode b_PW_replace 132 = .ok (.iaload, 1) := by decide +kernel
theorem d_PW_replace_133 : decode b_PW_replace 133 = .ok (.invokevirtual 105, 3) := by decide +kernel
theorem d_PW_replace_136 : decode b_PW_replace 136 = .ok (.ifCond .eq 14, 3) := by decide +kernel
theorem d_PW_replace_139 : decode b_PW_replace 139 = .ok (.aload_n 0, 1) := by decide +kernel
theorem d_PW_replace_140 : decode b_PW_replace 140 = .ok (.invokevirtual 218, 3) := by decide +kernel
theorem d_PW_replace_143 : decode b_PW_replace 143 = .ok (.ifCond .eq 7, 3) := by decide +kernel
theorem d_PW_replace_146 : decode b_PW_replace 146 = .ok (.iconst 1, 1) := by decide +kernel
theorem d_PW_replace_147 : decode b_PW_replace 147 = .ok (.goto 4, 3) := by decide +kernel
theorem d_PW_replace_150 : decode b_PW_replace 150 = .ok (.iconst 0, 1) := by decide +kernel
theorem d_PW_replace_151 : decode b_PW_replace 151 = .ok (.istore 6, 2) := by decide +kernel
theorem d_PW_replace_153 : decode b_PW_replace 153 = .ok (.aload_n 0, 1) := by decide +kernel
theorem d_PW_replace_154 : decode b_PW_replace 154 = .ok (.getfield 42, 3) := by decide +kernel
theorem d_PW_replace_157 : decode b_PW_replace 157 = .ok (.iconst 1, 1) := by decide +kernel
theorem d_PW_replace_158 : decode b_PW_replace 158 = .ok (.iaload, 1) := by decide +kernel
theorem d_PW_replace_159 : decode b_PW_replace 159 = .ok (.istore 4, 2) := by decide +kernel
theorem d_PW_replace_161 : decode b_PW_replace 161 = .ok (.iinc 5 1, 3) := by decide +kernel
theorem d_PW_replace_164 : decode b_PW_replace 164 = .ok (.iinc 7 1, 3) := by decide +kernel
theorem d_PW_replace_167 : decode b_PW_replace 167 = .ok (.goto (-83), 3) := by decide +kernel
theorem d_PW_replace_170 : decode b_PW_replace 170 = .ok (.aload_n 0, 1) := by decide +kernel
theorem d_PW_replace_171 : decode b_PW_replace 171 = .ok (.aload_n 2, 1) := by decide +kernel
theorem d_PW_replace_172 : decode b_PW_replace 172 = .ok (.getfield 152, 3) := by decide +kernel
theorem d_PW_replace_175 : decode b_PW_replace 175 = .ok (.iload 5, 2) := by decide +kernel
theorem d_PW_replace_177 : decode b_PW_replace 177 = .ok (.invokevirtual 175, 3) := by decide +kernel
theorem d_PW_replace_180 : decode b_PW_replace 180 = .ok (.iload 6, 2) := by decide +kernel
theorem d_PW_replace_182 : decode b_PW_replace 182 = .ok (.ifCond .eq 33, 3) := by decide +kernel
theorem d_PW_replace_185 : decode b_PW_replace 185 = .ok (.aload_n 0, 1) := by decide +kernel
theorem d_PW_replace_186 : decode b_PW_replace 186 = .ok (.getfield 88, 3) := by decide +kernel
theorem d_PW_replace_189 : decode b_PW_replace 189 = .ok (.aload_n 0, 1) := by decide +kernel
theorem d_PW_replace_190 : decode b_PW_replace 190 = .ok (.getfield 38, 3) := by decide +kernel
theorem d_PW_replace_193 : decode b_PW_replace 193 = .ok (.getfield 210, 3) := by decide +kernel
theorem d_PW_replace_196 : decode b_PW_replace 196 = .ok (.iload 4, 2) := by decide +kernel
theorem d_PW_replace_198 : decode b_PW_replace 198 = .ok (.iconst 0, 1) := by decide +kernel
theorem d_PW_replace_199 : decode b_PW_replace 199 = .ok (.invokestatic 213, 3) := by decide +kernel
theorem d_PW_replace_202 : decode b_PW_replace 202 = .ok (.aload_n 0, 1) := by decide +kernel
theorem d_PW_replace_203 : decode b_PW_replace 203 = .ok (.getfield 38, 3) := by decide +kernel
theorem d_PW_replace_206 : decode b_PW_replace 206 = .ok (.getfield 164, 3) := by decide +kernel
theorem d_PW_replace_209 : decode b_PW_replace 209 = .ok (.invokevirtual 105, 3) := by decide +kernel
theorem d_PW_replace_212 : decode b_PW_replace 212 = .ok (.ifCond .ne 13, 3) := by decide +kernel
theorem d_PW_replace_215 : decode b_PW_replace 215 = .ok (.new 109, 3) := by decide +kernel
theorem d_PW_replace_218 : decode b_PW_replace 218 = .ok (.dup, 1) := by decide +kernel
theorem d_PW_replace_219 : decode b_PW_replace 219 = .ok (.ldc 222, 2) := by decide +kernel
theorem d_PW_replace_221 : decode b_PW_replace 221 = .ok (.invokespecial 113, 3) := by decide +kernel
theorem d_PW_replace_224 : decode b_PW_replace 224 = .ok (.athrow, 1) := by decide +kernel
theorem d_PW_replace_225 : decode b_PW_replace 225 = .ok (.aload_n 0, 1) := by decide +kernel
theorem d_PW_replace_226 : decode b_PW_replace 226 = .ok (.getfield 88, 3) := by decide +kernel
theorem d_PW_replace_229 : decode b_PW_replace 229 = .ok (.astore 7, 2) := by decide +kernel
theorem d_PW_replace_231 : decode b_PW_replace 231 = .ok (.aload_n 0, 1) := by decide +kernel
theorem d_PW_replace_232 : decode b_PW_replace 232 = .ok (.aload_n 0, 1) := by decide +kernel
theorem d_PW_replace_233 : decode b_PW_replace 233 = .ok (.getfield 85, 3) := by decide +kernel
theorem d_PW_replace_236 : decode b_PW_replace 236 = .ok (.putfield 88, 3) := by decide +kernel
theorem d_PW_replace_239 : decode b_PW_replace 239 = .ok (.aload_n 0, 1) := by decide +kernel
theorem d_PW_replace_240 : decode b_PW_replace 240 = .ok (.aload 7, 2) := by decide +kernel
theorem d_PW_replace_242 : decode b_PW_replace 242 = .ok (.putfield 85, 3) := by decide +kernel
theorem d_PW_replace_245 : decode b_PW_replace 245 = .ok (.aload_n 0, 1) := by decide +kernel
theorem d_PW_replace_246 : decode b_PW_replace 246 = .ok (.getfield 85, 3) := by decide +kernel
theorem d_PW_replace_249 : decode b_PW_replace 249 = .ok (.getfield 101, 3) := by decide +kernel
theorem d_PW_replace_252 : decode b_PW_replace 252 = .ok (.ireturn, 1) := by decide +kernel
theorem d_PW_which_0 : decode b_PW_which 0 = .ok (.iconst 0, 1) := by decide +kernel
theorem d_PW_which_1 : decode b_PW_which 1 = .ok (.istore_n 3, 1) := by decide +kernel
theorem d_PW_which_2 : decode b_PW_which 2 = .ok (.iconst 0, 1) := by decide +kernel
theorem d_PW_which_3 : decode b_PW_which 3 = .ok (.istore 4, 2) := by decide +kernel
theorem d_PW_which_5 : decode b_PW_which 5 = .ok (.iconst 0, 1) := by decide +kernel
theorem d_PW_which_6 : decode b_PW_which 6 = .ok (.istore 5, 2) := by decide +kernel
theorem d_PW_which_8 : decode b_PW_which 8 = .ok (.iconst 0, 1) := by decide +kernel
theorem d_PW_which_9 : decode b_PW_which 9 = .ok (.istore 6, 2) := by decide +kernel
theorem d_PW_which_11 : decode b_PW_which 11 = .ok (.iload 6, 2) := by decide +kernel
theorem d_PW_which_13 : decode b_PW_which 13 = .ok (.bipush 6, 2) := by decide +kernel
theorem d_PW_which_15 : decode b_PW_which 15 = .ok (.if_icmp .ge 132, 3) := by decide +kernel
theorem d_PW_which_18 : decode b_PW_which 18 = .ok (.aload_n 0, 1) := by decide +kernel
theorem d_PW_which_19 : decode b_PW_which 19 = .ok (.getfield 31, 3) := by decide +kernel
theorem d_PW_which_22 : decode b_PW_which 22 = .ok (.iload 6, 2) := by decide +kernel
theorem d_PW_which_24 : decode b_PW_which 24 = .ok (.aaload, 1) := by decide +kernel
theorem d_PW_which_25 : decode b_PW_which 25 = .ok (.astore 7, 2) := by decide +kernel
theorem d_PW_which_27 : decode b_PW_which 27 = .ok (.aload 7, 2) := by decide +kernel
theorem d_PW_which_29 : decode b_PW_which 29 = .ok (.ifnull 112, 3) := by decide +kernel
theorem d_PW_which_32 : decode b_PW_which 32 = .ok (.iload_n 1, 1) := by decide +kernel
theorem d_PW_which_33 : decode b_PW_which 33 = .ok (.iload 6, 2) := by decide +kernel
theorem d_PW_which_35 : decode b_PW_which 35 = .ok (.ishr, 1) := by decide +kernel
theorem d_PW_which_36 : decode b_PW_which 36 = .ok (.iconst 1, 1) := by decide +kernel
theorem d_PW_which_37 : decode b_PW_which 37 = .ok (.iand, 1) := by decide +kernel
theorem d_PW_which_38 : decode b_PW_which 38 = .ok (.ifCond .eq 103, 3) := by decide +kernel
theorem d_PW_which_41 : decode b_PW_which 41 = .ok (.iload 4, 2) := by decide +kernel
theorem d_PW_which_43 : decode b_PW_which 43 = .ok (.aload 7, 2) := by decide +kernel
theorem d_PW_which_45 : decode b_PW_which 45 = .ok (.getfield 152, 3) := by decide +kernel
theorem d_PW_which_48 : decode b_PW_which 48 = .ok (.iadd, 1) := by decide +kernel
theorem d_PW_which_49 : decode b_PW_which 49 = .ok (.istore 4, 2) := by decide +kernel
theorem d_PW_which_51 : decode b_PW_which 51 = .ok (.iinc 5 1, 3) := by decide +kernel
theorem d_PW_which_54 : decode b_PW_which 54 = .ok (.iload_n 2, 1) := by decide +kernel
theorem d_PW_which_55 : decode b_PW_which 55 = .ok (.ifCond .eq 7, 3) := by decide +kernel
theorem d_PW_which_58 : decode b_PW_which 58 = .ok (.iconst 2, 1) := by decide +kernel
theorem d_PW_which_59 : decode b_PW_which 59 = .ok (.goto 4, 3) := by decide +kernel
theorem d_PW_which_62 : decode b_PW_which 62 = .ok (.iconst 0, 1) := by decide +kernel
theorem d_PW_which_63 : decode b_PW_which 63 = .ok (.istore 8, 2) := by decide +kernel
theorem d_PW_which_65 : decode b_PW_which 65 = .ok (.aload_n 0, 1) := by decide +kernel
theorem d_PW_which_66 : decode b_PW_which 66 = .ok (.getfield 69, 3) := by decide +kernel
theorem d_PW_which_69 : decode b_PW_which 69 = .ok (.aload 7, 2) := by decide +kernel
theorem d_PW_which_71 : decode b_PW_which 71 = .ok (.aload_n 0, 1) := by decide +kernel
theorem d_PW_which_72 : decode b_PW_which 72 = .ok (.getfield 38, 3) := by decide +kernel
theorem d_PW_which_75 : decode b_PW_which 75 = .ok (.iload 8, 2) := by decide +kernel
theorem d_PW_which_77 : decode b_PW_which 77 = .ok (.iconst 0, 1) := by decide +kernel
theorem d_PW_which_78 : decode b_PW_which 78 = .ok (.invokevirtual 224, 3) := by decide +kernel
theorem d_PW_which_81 : decode b_PW_which 81 = .ok (.istore 9, 2) := by decide +kernel
theorem d_PW_which_83 : decode b_PW_which 83 = .ok (.iload 9, 2) := by decide +kernel
theorem d_PW_which_85 : decode b_PW_which 85 = .ok (.bipush (-2), 2) := by decide +kernel
theorem d_PW_which_87 : decode b_PW_which 87 = .ok (.if_icmp .ne 25, 3) := by decide +kernel
theorem d_PW_which_90 : decode b_PW_which 90 = .ok (.aload_n 0, 1) := by decide +kernel
theorem d_PW_which_91 : decode b_PW_which 91 = .ok (.aload 7, 2) := by decide +kernel
theorem d_PW_which_93 : decode b_PW_which 93 = .ok (.iload 8, 2) := by decide +kernel
theorem d_PW_which_95 : decode b_PW_which 95 = .ok (.iconst 0, 1) := by decide +kernel
theorem d_PW_which_96 : decode b_PW_which 96 = .ok (.iconst 0, 1) := by decide +kernel
theorem d_PW_which_97 : decode b_PW_which 97 = .ok (.invokevirtual 171, 3) := by decide +kernel
theorem d_PW_which_100 : decode b_PW_which 100 = .ok (.iconst (-1), 1) := by decide +kernel
theorem d_PW_which_101 : decode b_PW_which 101 = .ok (.if_icmp .eq 7, 3) := by decide +kernel
theorem d_PW_which_104 : decode b_PW_which 104 = .ok (.iconst 1, 1) := by decide +kernel
theorem d_PW_which_105 : decode b_PW_which 105 = .ok (.goto 18, 3) := by decide +kernel
theorem d_PW_which_108 : decode b_PW_which 108 = .ok (.iconst 0, 1) := by decide +kernel
theorem d_PW_which_109 : decode b_PW_which 109 = .ok (.goto 14, 3) := by decide +kernel
theorem d_PW_which_112 : decode b_PW_which 112 = .ok (.iload 9, 2) := by decide +kernel
theorem d_PW_which_114 : decode b_PW_which 114 = .ok (.iconst 1, 1) := by decide +kernel
theorem d_PW_which_115 : decode b_PW_which 115 = .ok (.if_icmp .ne 7, 3) := by decide +kernel
theorem d_PW_which_118 : decode b_PW_which 118 = .ok (.iconst 1, 1) := by decide +kernel
theorem d_PW_which_119 : decode b_PW_which 119 = .ok (.goto 4, 3) := by decide +kernel
theorem d_PW_which_122 : decode b_PW_which 122 = .ok (.iconst 0, 1) := by decide +kernel
theorem d_PW_which_123 : decode b_PW_which 123 = .ok (.istore 10, 2) := by decide +kernel
theorem d_PW_which_125 : decode b_PW_which 125 = .ok (.iload_n 3, 1) := by decide +kernel
theorem d_PW_which_126 : decode b_PW_which 126 = .ok (.iload 10, 2) := by decide +kernel
theorem d_PW_which_128 : decode b_PW_which 128 = .ok (.ifCond .eq 10, 3) := by decide +kernel
theorem d_PW_which_131 : decode b_PW_which 131 = .ok (.iconst 1, 1) := by decide +kernel
theorem d_PW_which_132 : decode b_PW_which 132 = .ok (.iload 6, 2) := by decide +kernel
theorem d_PW_which_134 : decode b_PW_which 134 = .ok (.ishl, 1) := by decide +kernel
theorem d_PW_which_135 : decode b_PW_which 135 = .ok (.goto 4, 3) := by decide +kernel
theorem d_PW_which_138 : decode b_PW_which 138 = .ok (.iconst 0, 1) := by decide +kernel
theorem d_PW_which_139 : decode b_PW_which 139 = .ok (.ior, 1) := by decide +kernel
theorem d_PW_which_140 : decode b_PW_which 140 = .ok (.istore_n 3, 1) := by decide +kernel
theorem d_PW_which_141 : decode b_PW_which 141 = .ok (.iinc 6 1, 3) := by decide +kernel
theorem d_PW_which_144 : decode b_PW_which 144 = .ok (.goto (-133), 3) := by decide +kernel
theorem d_PW_which_147 : decode b_PW_which 147 = .ok (.aload_n 0, 1) := by decide +kernel
theorem d_PW_which_148 : decode b_PW_which 148 = .ok (.iload 4, 2) := by decide +kernel
theorem d_PW_which_150 : decode b_PW_which 150 = .ok (.iload 5, 2) := by decide +kernel
theorem d_PW_which_152 : decode b_PW_which 152 = .ok (.invokevirtual 175, 3) := by decide +kernel
theorem d_PW_which_155 : decode b_PW_which 155 = .ok (.iload_n 3, 1) := by decide +kernel
theorem d_PW_which_156 : decode b_PW_which 156 = .ok (.ireturn, 1) := by decide +kernel
