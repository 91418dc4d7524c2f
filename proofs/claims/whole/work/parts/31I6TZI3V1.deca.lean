theorem d_MO_about_0 : decode b_MO_about 0 = .ok (.aload_n 0, 1) := by decide +kernel
theorem d_MO_about_1 : decode b_MO_about 1 = .ok (.iconst 0, 1) := by decide +kernel
theorem d_MO_about_2 : decode b_MO_about 2 = .ok (.putfield 220, 3) := by decide +kernel
theorem d_MO_about_5 : decode b_MO_about 5 = .ok (.aload_n 0, 1) := by decide +kernel
theorem d_MO_about_6 : decode b_MO_about 6 = .ok (.iload_n 1, 1) := by decide +kernel
theorem d_MO_about_7 : decode b_MO_about 7 = .ok (.invokevirtual 507, 3) := by decide +kernel
theorem d_MO_about_10 : decode b_MO_about 10 = .ok (.ifCond .ne 7, 3) := by decide +kernel
theorem d_MO_about_13 : decode b_MO_about 13 = .ok (.iconst (-1), 1) := by decide +kernel
theorem d_MO_about_14 : decode b_MO_about 14 = .ok (.goto 45, 3) := by decide +kernel
theorem d_MO_about_17 : decode b_MO_about 17 = .ok (.iload_n 2, 1) := by decide +kernel
theorem d_MO_about_18 : decode b_MO_about 18 = .ok (.ifCond .ne 12, 3) := by decide +kernel
theorem d_MO_about_21 : decode b_MO_about 21 = .ok (.aload_n 0, 1) := by decide +kernel
theorem d_MO_about_22 : decode b_MO_about 22 = .ok (.getfield 115, 3) := by decide +kernel
theorem d_MO_about_25 : decode b_MO_about 25 = .ok (.iload_n 1, 1) := by decide +kernel
theorem d_MO_about_26 : decode b_MO_about 26 = .ok (.iaload, 1) := by decide +kernel
theorem d_MO_about_27 : decode b_MO_about 27 = .ok (.goto 32, 3) := by decide +kernel
theorem d_MO_about_30 : decode b_MO_about 30 = .ok (.iload_n 2, 1) := by decide +kernel
theorem d_MO_about_31 : decode b_MO_about 31 = .ok (.iconst 1, 1) := by decide +kernel
theorem d_MO_about_32 : decode b_MO_about 32 = .ok (.if_icmp .ne 12, 3) := by decide +kernel
theorem d_MO_about_35 : decode b_MO_about 35 = .ok (.aload_n 0, 1) := by decide +kernel
theorem d_MO_about_36 : decode b_MO_about 36 = .ok (.getfield 118, 3) := by decide +kernel
theorem d_MO_about_39 : decode b_MO_about 39 = .ok (.iload_n 1, 1) := by decide +kernel
theorem d_MO_about_40 : decode b_MO_about 40 = .ok (.iaload, 1) := by decide +kernel
theorem d_MO_about_41 : decode b_MO_about 41 = .ok (.goto 18, 3) := by decide +kernel
theorem d_MO_about_44 : decode b_MO_about 44 = .ok (.iload_n 2, 1) := by decide +kernel
theorem d_MO_about_45 : decode b_MO_about 45 = .ok (.iconst 2, 1) := by decide +kernel
theorem d_MO_about_46 : decode b_MO_about 46 = .ok (.if_icmp .ne 12, 3) := by decide +kernel
theorem d_MO_about_49 : decode b_MO_about 49 = .ok (.aload_n 0, 1) := by decide +kernel
theorem d_MO_about_50 : decode b_MO_about 50 = .ok (.getfield 121, 3) := by decide +kernel
theorem d_MO_about_53 : decode b_MO_about 53 = .ok (.iload_n 1, 1) := by decide +kernel
theorem d_MO_about_54 : decode b_MO_about 54 = .ok (.iaload, 1) := by decide +kernel
theorem d_MO_about_55 : decode b_MO_about 55 = .ok (.goto 4, 3) := by decide +kernel
theorem d_MO_about_58 : decode b_MO_about 58 = .ok (.iconst (-1), 1) := by decide +kernel
theorem d_MO_about_59 : decode b_MO_about 59 = .ok (.ireturn, 1) := by decide +kernel
theorem d_MO_bit_0 : decode b_MO_bit 0 = .ok (.aload_n 0, 1) := by decide +kernel
theorem d_MO_bit_1 : decode b_MO_bit 1 = .ok (.sipush 196, 3) := by decide +kernel
theorem d_MO_bit_4 : decode b_MO_bit 4 = .ok (.iload_n 1, 1) := by decide +kernel
theorem d_MO_bit_5 : decode b_MO_bit 5 = .ok (.imul, 1) := by decide +kernel
theorem d_MO_bit_6 : decode b_MO_bit 6 = .ok (.iload_n 2, 1) := by decide +kernel
theorem d_MO_bit_7 : decode b_MO_bit 7 = .ok (.bipush 64, 2) := by decide +kernel
theorem d_MO_bit_9 : decode b_MO_bit 9 = .ok (.idiv, 1) := by decide +kernel
theorem d_MO_bit_10 : decode b_MO_bit 10 = .ok (.iadd, 1) := by decide +kernel
theorem d_MO_bit_11 : decode b_MO_bit 11 = .ok (.laload, 1) := by decide +kernel
theorem d_MO_bit_12 : decode b_MO_bit 12 = .ok (.iload_n 2, 1) := by decide +kernel
theorem d_MO_bit_13 : decode b_MO_bit 13 = .ok (.bipush 64, 2) := by decide +kernel
theorem d_MO_bit_15 : decode b_MO_bit 15 = .ok (.irem, 1) := by decide +kernel
theorem d_MO_bit_16 : decode b_MO_bit 16 = .ok (.lshr, 1) := by decide +kernel
theorem d_MO_bit_17 : decode b_MO_bit 17 = .ok (.lconst 1, 1) := by decide +kernel
theorem d_MO_bit_18 : decode b_MO_bit 18 = .ok (.land, 1) := by decide +kernel
theorem d_MO_bit_19 : decode b_MO_bit 19 = .ok (.lconst 1, 1) := by decide +kernel
theorem d_MO_bit_20 : decode b_MO_bit 20 = .ok (.lcmp, 1) := by decide +kernel
theorem d_MO_bit_21 : decode b_MO_bit 21 = .ok (.ifCond .ne 7, 3) := by decide +kernel
theorem d_MO_bit_24 : decode b_MO_bit 24 = .ok (.iconst 1, 1) := by decide +kernel
theorem d_MO_bit_25 : decode b_MO_bit 25 = .ok (.goto 4, 3) := by decide +kernel
theorem d_MO_bit_28 : decode b_MO_bit 28 = .ok (.iconst 0, 1) := by decide +kernel
theorem d_MO_bit_29 : decode b_MO_bit 29 = .ok (.ireturn, 1) := by decide +kernel
theorem d_MO_byteOf_0 : decode b_MO_byteOf 0 = .ok (.iload_n 2, 1) := by decide +kernel
theorem d_MO_byteOf_1 : decode b_MO_byteOf 1 = .ok (.iload_n 1, 1) := by decide +kernel
theorem d_MO_byteOf_2 : decode b_MO_byteOf 2 = .ok (.if_icmp .ge 9, 3) := by decide +kernel
theorem d_MO_byteOf_5 : decode b_MO_byteOf 5 = .ok (.aload_n 0, 1) := by decide +kernel
theorem d_MO_byteOf_6 : decode b_MO_byteOf 6 = .ok (.iload_n 2, 1) := by decide +kernel
theorem d_MO_byteOf_7 : decode b_MO_byteOf 7 = .ok (.iaload, 1) := by decide +kernel
theorem d_MO_byteOf_8 : decode b_MO_byteOf 8 = .ok (.goto 4, 3) := by decide +kernel
theorem d_MO_byteOf_11 : decode b_MO_byteOf 11 = .ok (.iconst 0, 1) := by decide +kernel
theorem d_MO_byteOf_12 : decode b_MO_byteOf 12 = .ok (.ireturn, 1) := by decide +kernel
theorem d_MO_character_0 : decode b_MO_character 0 = .ok (.aload_n 0, 1) := by decide +kernel
theorem d_MO_character_1 : decode b_MO_character 1 = .ok (.iconst 1, 1) := by decide +kernel
theorem d_MO_character_2 : decode b_MO_character 2 = .ok (.putfield 226, 3) := by decide +kernel
theorem d_MO_character_5 : decode b_MO_character 5 = .ok (.aload_n 1, 1) := by decide +kernel
theorem d_MO_character_6 : decode b_MO_character 6 = .ok (.iload_n 2, 1) := by decide +kernel
theorem d_MO_character_7 : decode b_MO_character 7 = .ok (.iload_n 3, 1) := by decide +kernel
theorem d_MO_character_8 : decode b_MO_character 8 = .ok (.invokestatic 229, 3) := by decide +kernel
theorem d_MO_character_11 : decode b_MO_character 11 = .ok (.istore 4, 2) := by decide +kernel
theorem d_MO_character_13 : decode b_MO_character 13 = .ok (.iload_n 3, 1) := by decide +kernel
theorem d_MO_character_14 : decode b_MO_character 14 = .ok (.iload_n 2, 1) := by decide +kernel
theorem d_MO_character_15 : decode b_MO_character 15 = .ok (.if_icmp .lt 5, 3) := by decide +kernel
theorem d_MO_character_18 : decode b_MO_character 18 = .ok (.iconst (-1), 1) := by decide +kernel
theorem d_MO_character_19 : decode b_MO_character 19 = .ok (.ireturn, 1) := by decide +kernel
theorem d_MO_character_20 : decode b_MO_character 20 = .ok (.iload 4, 2) := by decide +kernel
theorem d_MO_character_22 : decode b_MO_character 22 = .ok (.sipush 128, 3) := by decide +kernel
theorem d_MO_character_25 : decode b_MO_character 25 = .ok (.if_icmp .ge 6, 3) := by decide +kernel
theorem d_MO_character_28 : decode b_MO_character 28 = .ok (.iload 4, 2) := by decide +kernel
theorem d_MO_character_30 : decode b_MO_character 30 = .ok (.ireturn, 1) := by decide +kernel
theorem d_MO_character_31 : decode b_MO_character 31 = .ok (.aload_n 1, 1) := by decide +kernel
theorem d_MO_character_32 : decode b_MO_character 32 = .ok (.iload_n 2, 1) := by decide +kernel
theorem d_MO_character_33 : decode b_MO_character 33 = .ok (.iload_n 3, 1) := by decide +kernel
theorem d_MO_character_34 : decode b_MO_character 34 = .ok (.iconst 1, 1) := by decide +kernel
theorem d_MO_character_35 : decode b_MO_character 35 = .ok (.iadd, 1) := by decide +kernel
theorem d_MO_character_36 : decode b_MO_character 36 = .ok (.invokestatic 229, 3) := by decide +kernel
theorem d_MO_character_39 : decode b_MO_character 39 = .ok (.istore 5, 2) := by decide +kernel
theorem d_MO_character_41 : decode b_MO_character 41 = .ok (.aload_n 1, 1) := by decide +kernel
theorem d_MO_character_42 : decode b_MO_character 42 = .ok (.iload_n 2, 1) := by decide +kernel
theorem d_MO_character_43 : decode b_MO_character 43 = .ok (.iload_n 3, 1) := by decide +kernel
theorem d_MO_character_44 : decode b_MO_character 44 = .ok (.iconst 2, 1) := by decide +kernel
theorem d_MO_character_45 : decode b_MO_character 45 = .ok (.iadd, 1) := by decide +kernel
theorem d_MO_character_46 : decode b_MO_character 46 = .ok (.invokestatic 229, 3) := by decide +kernel
theorem d_MO_character_49 : decode b_MO_character 49 = .ok (.istore 6, 2) := by decide +kernel
theorem d_MO_character_51 : decode b_MO_character 51 = .ok (.aload_n 1, 1) := by decide +kernel
theorem d_MO_character_52 : decode b_MO_character 52 = .ok (.iload_n 2, 1) := by decide +kernel
theorem d_MO_character_53 : decode b_MO_character 53 = .ok (.iload_n 3, 1) := by decide +kernel
theorem d_MO_character_54 : decode b_MO_character 54 = .ok (.iconst 3, 1) := by decide +kernel
theorem d_MO_character_55 : decode b_MO_character 55 = .ok (.iadd, 1) := by decide +kernel
theorem d_MO_character_56 : decode b_MO_character 56 = .ok (.invokestatic 229, 3) := by decide +kernel
theorem d_MO_character_59 : decode b_MO_character 59 = .ok (.istore 7, 2) := by decide +kernel
theorem d_MO_character_61 : decode b_MO_character 61 = .ok (.iload 5, 2) := by decide +kernel
theorem d_MO_character_63 : decode b_MO_character 63 = .ok (.sipush 128, 3) := by decide +kernel
theorem d_MO_character_66 : decode b_MO_character 66 = .ok (.if_icmp .lt 15, 3) := by decide +kernel
theorem d_MO_character_69 : decode b_MO_character 69 = .ok (.iload 5, 2) := by decide +kernel
theorem d_MO_character_71 : decode b_MO_character 71 = .ok (.sipush 192, 3) := by decide +kernel
theorem d_MO_character_74 : decode b_MO_character 74 = .ok (.if_icmp .ge 7, 3) := by decide +kernel
theorem d_MO_character_77 : decode b_MO_character 77 = .ok (.iconst 1, 1) := by decide +kernel
theorem d_MO_character_78 : decode b_MO_character 78 = .ok (.goto 4, 3) := by decide +kernel
theorem d_MO_character_81 : decode b_MO_character 81 = .ok (.iconst 0, 1) := by decide +kernel
theorem d_MO_character_82 : decode b_MO_character 82 = .ok (.istore 8, 2) := by decide +kernel
theorem d_MO_character_84 : decode b_MO_character 84 = .ok (.iload 8, 2) := by decide +kernel
theorem d_MO_character_86 : decode b_MO_character 86 = .ok (.ifCond .eq 23, 3) := by decide +kernel
theorem d_MO_character_89 : decode b_MO_character 89 = .ok (.iload 6, 2) := by decide +kernel
theorem d_MO_character_91 : decode b_MO_character 91 = .ok (.sipush 128, 3) := by decide +kernel
theorem d_MO_character_94 : decode b_MO_character 94 = .ok (.if_icmp .lt 15, 3) := by decide +kernel
theorem d_MO_character_97 : decode b_MO_character 97 = .ok (.iload 6, 2) := by decide +kernel
theorem d_MO_character_99 : decode b_MO_character 99 = .ok (.sipush 192, 3) := by decide +kernel
theorem d_MO_character_102 : decode b_MO_character 102 = .ok (.if_icmp .ge 7, 3) := by decide +kernel
theorem d_MO_character_105 : decode b_MO_character 105 = .ok (.iconst 1, 1) := by decide +kernel
theorem d_MO_character_106 : decode b_MO_character 106 = .ok (.goto 4, 3) := by decide +kernel
theorem d_MO_character_109 : decode b_MO_character 109 = .ok (.iconst 0, 1) := by decide +kernel
theorem d_MO_character_110 : decode b_MO_character 110 = .ok (.istore 9, 2) := by decide +kernel
theorem d_MO_character_112 : decode b_MO_character 112 = .ok (.iload 4, 2) := by decide +kernel
theorem d_MO_character_114 : decode b_MO_character 114 = .ok (.sipush 194, 3) := by decide +kernel
theorem d_MO_character_117 : decode b_MO_character 117 = .ok (.if_icmp .lt 36, 3) := by decide +kernel
theorem d_MO_character_120 : decode b_MO_character 120 = .ok (.iload 4, 2) := by decide +kernel
theorem d_MO_character_122 : decode b_MO_character 122 = .ok (.sipush 224, 3) := by decide +kernel
theorem d_MO_character_125 : decode b_MO_character 125 = .ok (.if_icmp .ge 28, 3) := by decide +kernel
theorem d_MO_character_128 : decode b_MO_character 128 = .ok (.iload 8, 2) := by decide +kernel
theorem d_MO_character_130 : decode b_MO_character 130 = .ok (.ifCond .eq 23, 3) := by decide +kernel
theorem d_MO_character_133 : decode b_MO_character 133 = .ok (.aload_n 0, 1) := by decide +kernel
theorem d_MO_character_134 : decode b_MO_character 134 = .ok (.iconst 2, 1) := by decide +kernel
theorem d_MO_character_135 : decode b_MO_character 135 = .ok (.putfield 226, 3) := by decide +kernel
theorem d_MO_character_138 : decode b_MO_character 138 = .ok (.iload 4, 2) := by decide +kernel
theorem d_MO_character_140 : decode b_MO_character 140 = .ok (.bipush 31, 2) := by decide +kernel
theorem d_MO_character_142 : decode b_MO_character 142 = .ok (.iand, 1) := by decide +kernel
theorem d_MO_character_143 : decode b_MO_character 143 = .ok (.bipush 6, 2) := by decide +kernel
theorem d_MO_character_145 : decode b_MO_character 145 = .ok (.ishl, 1) := by decide +kernel
theorem d_MO_character_146 : decode b_MO_character 146 = .ok (.iload 5, 2) := by decide +kernel
theorem d_MO_character_148 : decode b_MO_character 148 = .ok (.bipush 63, 2) := by decide +kernel
theorem d_MO_character_150 : decode b_MO_character 150 = .ok (.iand, 1) := by decide +kernel
theorem d_MO_character_151 : decode b_MO_character 151 = .ok (.ior, 1) := by decide +kernel
theorem d_MO_character_152 : decode b_MO_character 152 = .ok (.ireturn, 1) := by decide +kernel
theorem d_MO_character_153 : decode b_MO_character 153 = .ok (.iload 4, 2) := by decide +kernel
theorem d_MO_character_155 : decode b_MO_character 155 = .ok (.bipush 15, 2) := by decide +kernel
theorem d_MO_character_157 : decode b_MO_character 157 = .ok (.iand, 1) := by decide +kernel
theorem d_MO_character_158 : decode b_MO_character 158 = .ok (.bipush 12, 2) := by decide +kernel
theorem d_MO_character_160 : decode b_MO_character 160 = .ok (.ishl, 1) := by decide +kernel
theorem d_MO_character_161 : decode b_MO_character 161 = .ok (.iload 5, 2) := by decide +kernel
theorem d_MO_character_163 : decode b_MO_character 163 = .ok (.bipush 63, 2) := by decide +kernel
theorem d_MO_character_165 : decode b_MO_character 165 = .ok (.iand, 1) := by decide +kernel
theorem d_MO_character_166 : decode b_MO_character 166 = .ok (.bipush 6, 2) := by decide +kernel
theorem d_MO_character_168 : decode b_MO_character 168 = .ok (.ishl, 1) := by decide +kernel
theorem d_MO_character_169 : decode b_MO_character 169 = .ok (.ior, 1) := by decide +kernel
theorem d_MO_character_170 : decode b_MO_character 170 = .ok (.iload 6, 2) := by decide +kernel
theorem d_MO_character_172 : decode b_MO_character 172 = .ok (.bipush 63, 2) := by decide +kernel
theorem d_MO_character_174 : decode b_MO_character 174 = .ok (.iand, 1) := by decide +kernel
theorem d_MO_character_175 : decode b_MO_character 175 = .ok (.ior, 1) := by decide +kernel
theorem d_MO_character_176 : decode b_MO_character 176 = .ok (.istore 10, 2) := by decide +kernel
theorem d_MO_character_178 : decode b_MO_character 178 = .ok (.iload 4, 2) := by decide +kernel
theorem d_MO_character_180 : decode b_MO_character 180 = .ok (.sipush 224, 3) := by decide +kernel
theorem d_MO_character_183 : decode b_MO_character 183 = .ok (.if_icmp .lt 46, 3) := by decide +kernel
theorem d_MO_character_186 : decode b_MO_character 186 = .ok (.iload 4, 2) := by decide +kernel
theorem d_MO_character_188 : decode b_MO_character 188 = .ok (.sipush 240, 3) := by decide +kernel
theorem d_MO_character_191 : decode b_MO_character 191 = .ok (.if_icmp .ge 38, 3) := by decide +kernel
theorem d_MO_character_194 : decode b_MO_character 194 = .ok (.iload 9, 2) := by decide +kernel
theorem d_MO_character_196 : decode b_MO_character 196 = .ok (.ifCond .eq 33, 3) := by decide +kernel
theorem d_MO_character_199 : decode b_MO_character 199 = .ok (.iload 10, 2) := by decide +kernel
theorem d_MO_character_201 : decode b_MO_character 201 = .ok (.sipush 2048, 3) := by decide +kernel
theorem d_MO_character_204 : decode b_MO_character 204 = .ok (.if_icmp .lt 25, 3) := by decide +kernel
theorem d_MO_character_207 : decode b_MO_character 207 = .ok (.iload 10, 2) := by decide +kernel
theorem d_MO_character_209 : decode b_MO_character 209 = .ok (.ldc 233, 2) := by decide +kernel
theorem d_MO_character_211 : decode b_MO_character 211 = .ok (.if_icmp .lt 10, 3) := by decide +kernel
theorem d_MO_character_214 : decode b_MO_character 214 = .ok (.iload 10, 2) := by decide +kernel
theorem d_MO_character_216 : decode b_MO_character 216 = .ok (.ldc 234, 2) := by decide +kernel
theorem d_MO_character_218 : decode b_MO_character 218 = .ok (.if_icmp .lt 11, 3) := by decide +kernel
theorem d_MO_character_221 : decode b_MO_character 221 = .ok (.aload_n 0, 1) := by decide +kernel
theorem d_MO_character_222 : decode b_MO_character 222 = .ok (.iconst 3, 1) := by decide +kernel
theorem d_MO_character_223 : decode b_MO_character 223 = .ok (.putfield 226, 3) := by decide +kernel
theorem d_MO_character_226 : decode b_MO_character 226 = .ok (.iload 10, 2) := by decide +kernel
theorem d_MO_character_228 : decode b_MO_character 228 = .ok (.ireturn, 1) := by decide +kernel
theorem d_MO_character_229 : decode b_MO_character 229 = .ok (.iload 4, 2) := by decide +kernel
theorem d_MO_character_231 : decode b_MO_character 231 = .ok (.bipush 7, 2) := by decide +kernel
theorem d_MO_character_233 : decode b_MO_character 233 = .ok (.iand, 1) := by decide +kernel
theorem d_MO_character_234 : decode b_MO_character 234 = .ok (.bipush 18, 2) := by decide +kernel
theorem d_MO_character_236 : decode b_MO_character 236 = .ok (.ishl, 1) := by decide +kernel
theorem d_MO_character_237 : decode b_MO_character 237 = .ok (.iload 5, 2) := by decide +kernel
theorem d_MO_character_239 : decode b_MO_character 239 = .ok (.bipush 63, 2) := by decide +kernel
theorem d_MO_character_241 : decode b_MO_character 241 = .ok (.iand, 1) := by decide +kernel
theorem d_MO_character_242 : decode b_MO_character 242 = .ok (.bipush 12, 2) := by decide +kernel
theorem d_MO_character_244 : decode b_MO_character 244 = .ok (.ishl, 1) := by decide +kernel
theorem d_MO_character_245 : decode b_MO_character 245 = .ok (.ior, 1) := by decide +kernel
theorem d_MO_character_246 : decode b_MO_character 246 = .ok (.iload 6, 2) := by decide +kernel
theorem d_MO_character_248 : decode b_MO_character 248 = .ok (.bipush 63, 2) := by decide +kernel
theorem d_MO_character_250 : decode b_MO_character 250 = .ok (.iand, 1) := by decide +kernel
theorem d_MO_character_251 : decode b_MO_character 251 = .ok (.bipush 6, 2) := by decide +kernel
theorem d_MO_character_253 : decode b_MO_character 253 = .ok (.ishl, 1) := by decide +kernel
theorem d_MO_character_254 : decode b_MO_character 254 = .ok (.ior, 1) := by decide +kernel
theorem d_MO_character_255 : decode b_MO_character 255 = .ok (.iload 7, 2) := by decide +kernel
theorem d_MO_character_257 : decode b_MO_character 257 = .ok (.bipush 63, 2) := by decide +kernel
theorem d_MO_character_259 : decode b_MO_character 259 = .ok (.iand, 1) := by decide +kernel
theorem d_MO_character_260 : decode b_MO_character 260 = .ok (.ior, 1) := by decide +kernel
theorem d_MO_character_261 : decode b_MO_character 261 = .ok (.istore 10, 2) := by decide +kernel
theorem d_MO_character_263 : decode b_MO_character 263 = .ok (.iload 4, 2) := by decide +kernel
theorem d_MO_character_265 : decode b_MO_character 265 = .ok (.sipush 240, 3) := by decide +kernel
theorem d_MO_character_268 : decode b_MO_character 268 = .ok (.if_icmp .lt 54, 3) := by decide +kernel
theorem d_MO_character_271 : decode b_MO_character 271 = .ok (.iload 4, 2) := by decide +kernel
theorem d_MO_character_273 : decode b_MO_character 273 = .ok (.sipush 245, 3) := by decide +kernel
theorem d_MO_character_276 : decode b_MO_character 276 = .ok (.if_icmp .ge 46, 3) := by decide +kernel
theorem d_MO_character_279 : decode b_MO_character 279 = .ok (.iload 9, 2) := by decide +kernel
theorem d_MO_character_281 : decode b_MO_character 281 = .ok (.ifCond .eq 41, 3) := by decide +kernel
theorem d_MO_character_284 : decode b_MO_character 284 = .ok (.iload 7, 2) := by decide +kernel
theorem d_MO_character_286 : decode b_MO_character 286 = .ok (.sipush 128, 3) := by decide +kernel
theorem d_MO_character_289 : decode b_MO_character 289 = .ok (.if_icmp .lt 33, 3) := by decide +kernel
theorem d_MO_character_292 : decode b_MO_character 292 = .ok (.iload 7, 2) := by decide +kernel
theorem d_MO_character_294 : decode b_MO_character 294 = .ok (.sipush 192, 3) := by decide +kernel
theorem d_MO_character_297 : decode b_MO_character 297 = .ok (.if_icmp .ge 25, 3) := by decide +kernel
theorem d_MO_character_300 : decode b_MO_character 300 = .ok (.iload 10, 2) := by decide +kernel
theorem d_MO_character_302 : decode b_MO_character 302 = .ok (.ldc 235, 2) := by decide +kernel
theorem d_MO_character_304 : decode b_MO_character 304 = .ok (.if_icmp .lt 18, 3) := by decide +kernel
theorem d_MO_character_307 : decode b_MO_character 307 = .ok (.iload 10, 2) := by decide +kernel
theorem d_MO_character_309 : decode b_MO_character 309 = .ok (.ldc 236, 2) := by decide +kernel
theorem d_MO_character_311 : decode b_MO_character 311 = .ok (.if_icmp .gt 11, 3) := by decide +kernel
theorem d_MO_character_314 : decode b_MO_character 314 = .ok (.aload_n 0, 1) := by decide +kernel
theorem d_MO_character_315 : decode b_MO_character 315 = .ok (.iconst 4, 1) := by decide +kernel
theorem d_MO_character_316 : decode b_MO_character 316 = .ok (.putfield 226, 3) := by decide +kernel
theorem d_MO_character_319 : decode b_MO_character 319 = .ok (.iload 10, 2) := by decide +kernel
theorem d_MO_character_321 : decode b_MO_character 321 = .ok (.ireturn, 1) := by decide +kernel
theorem d_MO_character_322 : decode b_MO_character 322 = .ok (.iconst (-1), 1) := by decide +kernel
theorem d_MO_character_323 : decode b_MO_character 323 = .ok (.ireturn, 1) := by decide +kernel
theorem d_MO_end_0 : decode b_MO_end 0 = .ok (.aload_n 0, 1) := by decide +kernel
theorem d_MO_end_1 : decode b_MO_end 1 = .ok (.iconst 0, 1) := by decide +kernel
theorem d_MO_end_2 : decode b_MO_end 2 = .ok (.putfield 220, 3) := by decide +kernel
theorem d_MO_end_5 : decode b_MO_end 5 = .ok (.iload_n 1, 1) := by decide +kernel
theorem d_MO_end_6 : decode b_MO_end 6 = .ok (.ifCond .lt 21, 3) := by decide +kernel
theorem d_MO_end_9 : decode b_MO_end 9 = .ok (.iload_n 1, 1) := by decide +kernel
theorem d_MO_end_10 : decode b_MO_end 10 = .ok (.bipush 20, 2) := by decide +kernel
theorem d_MO_end_12 : decode b_MO_end 12 = .ok (.if_icmp .gt 15, 3) := by decide +kernel
theorem d_MO_end_15 : decode b_MO_end 15 = .ok (.aload_n 0, 1) := by decide +kernel
theorem d_MO_end_16 : decode b_MO_end 16 = .ok (.getfield 223, 3) := by decide +kernel
theorem d_MO_end_19 : decode b_MO_end 19 = .ok (.iload_n 1, 1) := by decide +kernel
theorem d_MO_end_20 : decode b_MO_end 20 = .ok (.iadd, 1) := by decide +kernel
theorem d_MO_end_21 : decode b_MO_end 21 = .ok (.sipush 2000, 3) := by decide +kernel
theorem d_MO_end_24 : decode b_MO_end 24 = .ok (.if_icmp .le 5, 3) := by decide +kernel
theorem d_MO_end_27 : decode b_MO_end 27 = .ok (.iconst (-1), 1) := by decide +kernel
theorem d_MO_end_28 : decode b_MO_end 28 = .ok (.ireturn, 1) := by decide +kernel
theorem d_MO_end_29 : decode b_MO_end 29 = .ok (.iconst 0, 1) := by decide +kernel
theorem d_MO_end_30 : decode b_MO_end 30 = .ok (.istore_n 2, 1) := by decide +kernel
theorem d_MO_end_31 : decode b_MO_end 31 = .ok (.iload_n 2, 1) := by decide +kernel
theorem d_MO_end_32 : decode b_MO_end 32 = .ok (.iload_n 1, 1) := by decide +kernel
theorem d_MO_end_33 : decode b_MO_end 33 = .ok (.if_icmp .ge 26, 3) := by decide +kernel
theorem d_MO_end_36 : decode b_MO_end 36 = .ok (.aload_n 0, 1) := by decide +kernel
theorem d_MO_end_37 : decode b_MO_end 37 = .ok (.getfield 19, 3) := by decide +kernel
theorem d_MO_end_40 : decode b_MO_end 40 = .ok (.aload_n 0, 1) := by decide +kernel
theorem d_MO_end_41 : decode b_MO_end 41 = .ok (.getfield 223, 3) := by decide +kernel
theorem d_MO_end_44 : decode b_MO_end 44 = .ok (.iload_n 2, 1) := by decide +kernel
theorem d_MO_end_45 : decode b_MO_end 45 = .ok (.iadd, 1) := by decide +kernel
theorem d_MO_end_46 : decode b_MO_end 46 = .ok (.aload_n 0, 1) := by decide +kernel
theorem d_MO_end_47 : decode b_MO_end 47 = .ok (.getfield 16, 3) := by decide +kernel
theorem d_MO_end_50 : decode b_MO_end 50 = .ok (.iload_n 2, 1) := by decide +kernel
theorem d_MO_end_51 : decode b_MO_end 51 = .ok (.iaload, 1) := by decide +kernel
theorem d_MO_end_52 : decode b_MO_end 52 = .ok (.iastore, 1) := by decide +kernel
theorem d_MO_end_53 : decode b_MO_end 53 = .ok (.iinc 2 1, 3) := by decide +kernel
theorem d_MO_end_56 : decode b_MO_end 56 = .ok (.goto (-25), 3) := by decide +kernel
theorem d_MO_end_59 : decode b_MO_end 59 = .ok (.aload_n 0, 1) := by decide +kernel
theorem d_MO_end_60 : decode b_MO_end 60 = .ok (.dup, 1) := by decide +kernel
theorem d_MO_end_61 : decode b_MO_end 61 = .ok (.getfield 223, 3) := by decide +kernel
theorem d_MO_end_64 : decode b_MO_end 64 = .ok (.iload_n 1, 1) := by decide +kernel
theorem d_MO_end_65 : decode b_MO_end 65 = .ok (.iadd, 1) := by decide +kernel
theorem d_MO_end_66 : decode b_MO_end 66 = .ok (.putfield 223, 3) := by decide +kernel
theorem d_MO_end_69 : decode b_MO_end 69 = .ok (.iconst 0, 1) := by decide +kernel
theorem d_MO_end_70 : decode b_MO_end 70 = .ok (.istore_n 2, 1) := by decide +kernel
theorem d_MO_end_71 : decode b_MO_end 71 = .ok (.iload_n 2, 1) := by decide +kernel
theorem d_MO_end_72 : decode b_MO_end 72 = .ok (.bipush 20, 2) := by decide +kernel
theorem d_MO_end_74 : decode b_MO_end 74 = .ok (.if_icmp .ge 16, 3) := by decide +kernel
theorem d_MO_end_77 : decode b_MO_end 77 = .ok (.aload_n 0, 1) := by decide +kernel
theorem d_MO_end_78 : decode b_MO_end 78 = .ok (.getfield 16, 3) := by decide +kernel
theorem d_MO_end_81 : decode b_MO_end 81 = .ok (.iload_n 2, 1) := by decide +kernel
theorem d_MO_end_82 : decode b_MO_end 82 = .ok (.iconst 0, 1) := by decide +kernel
theorem d_MO_end_83 : decode b_MO_end 83 = .ok (.iastore, 1) := by decide +kernel
theorem d_MO_end_84 : decode b_MO_end 84 = .ok (.iinc 2 1, 3) := by decide +kernel
theorem d_MO_end_87 : decode b_MO_end 87 = .ok (.goto (-16), 3) := by decide +kernel
theorem d_MO_end_90 : decode b_MO_end 90 = .ok (.aload_n 0, 1) := by decide +kernel
theorem d_MO_end_91 : decode b_MO_end 91 = .ok (.getfield 223, 3) := by decide +kernel
theorem d_MO_end_94 : decode b_MO_end 94 = .ok (.ireturn, 1) := by decide +kernel
theorem d_MO_fault_0 : decode b_MO_fault 0 = .ok (.aload_n 0, 1) := by decide +kernel
theorem d_MO_fault_1 : decode b_MO_fault 1 = .ok (.iconst 0, 1) := by decide +kernel
theorem d_MO_fault_2 : decode b_MO_fault 2 = .ok (.putfield 220, 3) := by decide +kernel
theorem d_MO_fault_5 : decode b_MO_fault 5 = .ok (.iload_n 1, 1) := by decide +kernel
theorem d_MO_fault_6 : decode b_MO_fault 6 = .ok (.ifCond .ne 10, 3) := by decide +kernel
theorem d_MO_fault_9 : decode b_MO_fault 9 = .ok (.aload_n 0, 1) := by decide +kernel
theorem d_MO_fault_10 : decode b_MO_fault 10 = .ok (.getfield 273, 3) := by decide +kernel
theorem d_MO_fault_13 : decode b_MO_fault 13 = .ok (.goto 16, 3) := by decide +kernel
theorem d_MO_fault_16 : decode b_MO_fault 16 = .ok (.iload_n 1, 1) := by decide +kernel
theorem d_MO_fault_17 : decode b_MO_fault 17 = .ok (.iconst 1, 1) := by decide +kernel
theorem d_MO_fault_18 : decode b_MO_fault 18 = .ok (.if_icmp .ne 10, 3) := by decide +kernel
theorem d_MO_fault_21 : decode b_MO_fault 21 = .ok (.aload_n 0, 1) := by decide +kernel
theorem d_MO_fault_22 : decode b_MO_fault 22 = .ok (.getfield 75, 3) := by decide +kernel
theorem d_MO_fault_25 : decode b_MO_fault 25 = .ok (.goto 4, 3) := by decide +kernel
theorem d_MO_fault_28 : decode b_MO_fault 28 = .ok (.iconst (-1), 1) := by decide +kernel
theorem d_MO_fault_29 : decode b_MO_fault 29 = .ok (.ireturn, 1) := by decide +kernel
theorem d_MO_feed_0 : decode b_MO_feed 0 = .ok (.aload_n 0, 1) := by decide +kernel
theorem d_MO_feed_1 : decode b_MO_feed 1 = .ok (.iconst 0, 1) := by decide +kernel
theorem d_MO_feed_2 : decode b_MO_feed 2 = .ok (.putfield 220, 3) := by decide +kernel
theorem d_MO_feed_5 : decode b_MO_feed 5 = .ok (.iconst 0, 1) := by decide +kernel
theorem d_MO_feed_6 : decode b_MO_feed 6 = .ok (.istore 6, 2) := by decide +kernel
theorem d_MO_feed_8 : decode b_MO_feed 8 = .ok (.iload 6, 2) := by decide +kernel
theorem d_MO_feed_10 : decode b_MO_feed 10 = .ok (.iconst 4, 1) := by decide +kernel
theorem d_MO_feed_11 : decode b_MO_feed 11 = .ok (.if_icmp .ge 107, 3) := by decide +kernel
theorem d_MO_feed_14 : decode b_MO_feed 14 = .ok (.bipush 24, 2) := by decide +kernel
theorem d_MO_feed_16 : decode b_MO_feed 16 = .ok (.bipush 8, 2) := by decide +kernel
theorem d_MO_feed_18 : decode b_MO_feed 18 = .ok (.iload 6, 2) := by decide +kernel
theorem d_MO_feed_20 : decode b_MO_feed 20 = .ok (.imul, 1) := by decide +kernel
theorem d_MO_feed_21 : decode b_MO_feed 21 = .ok (.isub, 1) := by decide +kernel
theorem d_MO_feed_22 : decode b_MO_feed 22 = .ok (.istore 7, 2) := by decide +kernel
theorem d_MO_feed_24 : decode b_MO_feed 24 = .ok (.aload_n 0, 1) := by decide +kernel
theorem d_MO_feed_25 : decode b_MO_feed 25 = .ok (.getfield 16, 3) := by decide +kernel
theorem d_MO_feed_28 : decode b_MO_feed 28 = .ok (.iload 6, 2) := by decide +kernel
theorem d_MO_feed_30 : decode b_MO_feed 30 = .ok (.iload_n 1, 1) := by decide +kernel
theorem d_MO_feed_31 : decode b_MO_feed 31 = .ok (.iload 7, 2) := by decide +kernel
theorem d_MO_feed_33 : decode b_MO_feed 33 = .ok (.ishr, 1) := by decide +kernel
theorem d_MO_feed_34 : decode b_MO_feed 34 = .ok (.sipush 255, 3) := by decide +kernel
theorem d_MO_feed_37 : decode b_MO_feed 37 = .ok (.iand, 1) := by decide +kernel
theorem d_MO_feed_38 : decode b_MO_feed 38 = .ok (.iastore, 1) := by decide +kernel
theorem d_MO_feed_39 : decode b_MO_feed 39 = .ok (.aload_n 0, 1) := by decide +kernel
theorem d_MO_feed_40 : decode b_MO_feed 40 = .ok (.getfield 16, 3) := by decide +kernel
theorem d_MO_feed_43 : decode b_MO_feed 43 = .ok (.iconst 4, 1) := by decide +kernel
theorem d_MO_feed_44 : decode b_MO_feed 44 = .ok (.iload 6, 2) := by decide +kernel
theorem d_MO_feed_46 : decode b_MO_feed 46 = .ok (.iadd, 1) := by decide +kernel
theorem d_MO_feed_47 : decode b_MO_feed 47 = .ok (.iload_n 2, 1) := by decide +kernel
theorem d_MO_feed_48 : decode b_MO_feed 48 = .ok (.iload 7, 2) := by decide +kernel
theorem d_MO_feed_50 : decode b_MO_feed 50 = .ok (.ishr, 1) := by decide +kernel
theorem d_MO_feed_51 : decode b_MO_feed 51 = .ok (.sipush 255, 3) := by decide +kernel
theorem d_MO_feed_54 : decode b_MO_feed 54 = .ok (.iand, 1) := by decide +kernel
theorem d_MO_feed_55 : decode b_MO_feed 55 = .ok (.iastore, 1) := by decide +kernel
theorem d_MO_feed_56 : decode b_MO_feed 56 = .ok (.aload_n 0, 1) := by decide +kernel
theorem d_MO_feed_57 : decode b_MO_feed 57 = .ok (.getfield 16, 3) := by decide +kernel
theorem d_MO_feed_60 : decode b_MO_feed 60 = .ok (.bipush 8, 2) := by decide +kernel
theorem d_MO_feed_62 : decode b_MO_feed 62 = .ok (.iload 6, 2) := by decide +kernel
theorem d_MO_feed_64 : decode b_MO_feed 64 = .ok (.iadd, 1) := by decide +kernel
theorem d_MO_feed_65 : decode b_MO_feed 65 = .ok (.iload_n 3, 1) := by decide +kernel
theorem d_MO_feed_66 : decode b_MO_feed 66 = .ok (.iload 7, 2) := by decide +kernel
theorem d_MO_feed_68 : decode b_MO_feed 68 = .ok (.ishr, 1) := by decide +kernel
theorem d_MO_feed_69 : decode b_MO_feed 69 = .ok (.sipush 255, 3) := by decide +kernel
theorem d_MO_feed_72 : decode b_MO_feed 72 = .ok (.iand, 1) := by decide +kernel
theorem d_MO_feed_73 : decode b_MO_feed 73 = .ok (.iastore, 1) := by decide +kernel
theorem d_MO_feed_74 : decode b_MO_feed 74 = .ok (.aload_n 0, 1) := by decide +kernel
theorem d_MO_feed_75 : decode b_MO_feed 75 = .ok (.getfield 16, 3) := by decide +kernel
theorem d_MO_feed_78 : decode b_MO_feed 78 = .ok (.bipush 12, 2) := by decide +kernel
theorem d_MO_feed_80 : decode b_MO_feed 80 = .ok (.iload 6, 2) := by decide +kernel
theorem d_MO_feed_82 : decode b_MO_feed 82 = .ok (.iadd, 1) := by decide +kernel
theorem d_MO_feed_83 : decode b_MO_feed 83 = .ok (.iload 4, 2) := by decide +kernel
theorem d_MO_feed_85 : decode b_MO_feed 85 = .ok (.iload 7, 2) := by decide +kernel
theorem d_MO_feed_87 : decode b_MO_feed 87 = .ok (.ishr, 1) := by decide +kernel
theorem d_MO_feed_88 : decode b_MO_feed 88 = .ok (.sipush 255, 3) := by decide +kernel
theorem d_MO_feed_91 : decode b_MO_feed 91 = .ok (.iand, 1) := by decide +kernel
theorem d_MO_feed_92 : decode b_MO_feed 92 = .ok (.iastore, 1) := by decide +kernel
theorem d_MO_feed_93 : decode b_MO_feed 93 = .ok (.aload_n 0, 1) := by decide +kernel
theorem d_MO_feed_94 : decode b_MO_feed 94 = .ok (.getfield 16, 3) := by decide +kernel
theorem d_MO_feed_97 : decode b_MO_feed 97 = .ok (.bipush 16, 2) := by decide +kernel
theorem d_MO_feed_99 : decode b_MO_feed 99 = .ok (.iload 6, 2) := by decide +kernel
theorem d_MO_feed_101 : decode b_MO_feed 101 = .ok (.iadd, 1) := by decide +kernel
theorem d_MO_feed_102 : decode b_MO_feed 102 = .ok (.iload 5, 2) := by decide +kernel
theorem d_MO_feed_104 : decode b_MO_feed 104 = .ok (.iload 7, 2) := by decide +kernel
theorem d_MO_feed_106 : decode b_MO_feed 106 = .ok (.ishr, 1) := by decide +kernel
theorem d_MO_feed_107 : decode b_MO_feed 107 = .ok (.sipush 255, 3) := by decide +kernel
theorem d_MO_feed_110 : decode b_MO_feed 110 = .ok (.iand, 1) := by decide +kernel
theorem d_MO_feed_111 : decode b_MO_feed 111 = .ok (.iastore, 1) := by decide +kernel
theorem d_MO_feed_112 : decode b_MO_feed 112 = .ok (.iinc 6 1, 3) := by decide +kernel
theorem d_MO_feed_115 : decode b_MO_feed 115 = .ok (.goto (-107), 3) := by decide +kernel
theorem d_MO_feed_118 : decode b_MO_feed 118 = .ok (.return_, 1) := by decide +kernel
theorem d_MO_found_0 : decode b_MO_found 0 = .ok (.aload_n 0, 1) := by decide +kernel
theorem d_MO_found_1 : decode b_MO_found 1 = .ok (.iconst 0, 1) := by decide +kernel
theorem d_MO_found_2 : decode b_MO_found 2 = .ok (.putfield 220, 3) := by decide +kernel
theorem d_MO_found_5 : decode b_MO_found 5 = .ok (.iload_n 1, 1) := by decide +kernel
theorem d_MO_found_6 : decode b_MO_found 6 = .ok (.ifCond .lt 20, 3) := by decide +kernel
theorem d_MO_found_9 : decode b_MO_found 9 = .ok (.iload_n 1, 1) := by decide +kernel
theorem d_MO_found_10 : decode b_MO_found 10 = .ok (.aload_n 0, 1) := by decide +kernel
theorem d_MO_found_11 : decode b_MO_found 11 = .ok (.getfield 579, 3) := by decide +kernel
theorem d_MO_found_14 : decode b_MO_found 14 = .ok (.if_icmp .ge 12, 3) := by decide +kernel
theorem d_MO_found_17 : decode b_MO_found 17 = .ok (.iload_n 2, 1) := by decide +kernel
theorem d_MO_found_18 : decode b_MO_found 18 = .ok (.ifCond .lt 8, 3) := by decide +kernel
theorem d_MO_found_21 : decode b_MO_found 21 = .ok (.iload_n 2, 1) := by decide +kernel
theorem d_MO_found_22 : decode b_MO_found 22 = .ok (.iconst 1, 1) := by decide +kernel
theorem d_MO_found_23 : decode b_MO_found 23 = .ok (.if_icmp .le 7, 3) := by decide +kernel
theorem d_MO_found_26 : decode b_MO_found 26 = .ok (.iconst (-1), 1) := by decide +kernel
theorem d_MO_found_27 : decode b_MO_found 27 = .ok (.goto 13, 3) := by decide +kernel
theorem d_MO_found_30 : decode b_MO_found 30 = .ok (.aload_n 0, 1) := by decide +kernel
theorem d_MO_found_31 : decode b_MO_found 31 = .ok (.getfield 211, 3) := by decide +kernel
theorem d_MO_found_34 : decode b_MO_found 34 = .ok (.iconst 2, 1) := by decide +kernel
theorem d_MO_found_35 : decode b_MO_found 35 = .ok (.iload_n 1, 1) := by decide +kernel
theorem d_MO_found_36 : decode b_MO_found 36 = .ok (.imul, 1) := by decide +kernel
theorem d_MO_found_37 : decode b_MO_found 37 = .ok (.iload_n 2, 1) := by decide +kernel
theorem d_MO_found_38 : decode b_MO_found 38 = .ok (.iadd, 1) := by decide +kernel
theorem d_MO_found_39 : decode b_MO_found 39 = .ok (.iaload, 1) := by decide +kernel
theorem d_MO_found_40 : decode b_MO_found 40 = .ok (.ireturn, 1) := by decide +kernel
theorem d_MO_group_0 : decode b_MO_group 0 = .ok (.aload_n 0, 1) := by decide +kernel
theorem d_MO_group_1 : decode b_MO_group 1 = .ok (.iconst 0, 1) := by decide +kernel
theorem d_MO_group_2 : decode b_MO_group 2 = .ok (.putfield 220, 3) := by decide +kernel
theorem d_MO_group_5 : decode b_MO_group 5 = .ok (.aload_n 0, 1) := by decide +kernel
theorem d_MO_group_6 : decode b_MO_group 6 = .ok (.getfield 563, 3) := by decide +kernel
theorem d_MO_group_9 : decode b_MO_group 9 = .ok (.ifCond .eq 24, 3) := by decide +kernel
theorem d_MO_group_12 : decode b_MO_group 12 = .ok (.iload_n 1, 1) := by decide +kernel
theorem d_MO_group_13 : decode b_MO_group 13 = .ok (.ifCond .lt 20, 3) := by decide +kernel
theorem d_MO_group_16 : decode b_MO_group 16 = .ok (.iload_n 1, 1) := by decide +kernel
theorem d_MO_group_17 : decode b_MO_group 17 = .ok (.aload_n 0, 1) := by decide +kernel
theorem d_MO_group_18 : decode b_MO_group 18 = .ok (.getfield 570, 3) := by decide +kernel
theorem d_MO_group_21 : decode b_MO_group 21 = .ok (.if_icmp .gt 12, 3) := by decide +kernel
theorem d_MO_group_24 : decode b_MO_group 24 = .ok (.iload_n 2, 1) := by decide +kernel
theorem d_MO_group_25 : decode b_MO_group 25 = .ok (.ifCond .lt 8, 3) := by decide +kernel
theorem d_MO_group_28 : decode b_MO_group 28 = .ok (.iload_n 2, 1) := by decide +kernel
theorem d_MO_group_29 : decode b_MO_group 29 = .ok (.iconst 1, 1) := by decide +kernel
theorem d_MO_group_30 : decode b_MO_group 30 = .ok (.if_icmp .le 7, 3) := by decide +kernel
theorem d_MO_group_33 : decode b_MO_group 33 = .ok (.iconst (-1), 1) := by decide +kernel
theorem d_MO_group_34 : decode b_MO_group 34 = .ok (.goto 13, 3) := by decide +kernel
theorem d_MO_group_37 : decode b_MO_group 37 = .ok (.aload_n 0, 1) := by decide +kernel
theorem d_MO_group_38 : decode b_MO_group 38 = .ok (.getfield 193, 3) := by decide +kernel
theorem d_MO_group_41 : decode b_MO_group 41 = .ok (.iconst 2, 1) := by decide +kernel
theorem d_MO_group_42 : decode b_MO_group 42 = .ok (.iload_n 1, 1) := by decide +kernel
theorem d_MO_group_43 : decode b_MO_group 43 = .ok (.imul, 1) := by decide +kernel
theorem d_MO_group_44 : decode b_MO_group 44 = .ok (.iload_n 2, 1) := by decide +kernel
theorem d_MO_group_45 : decode b_MO_group 45 = .ok (.iadd, 1) := by decide +kernel
theorem d_MO_group_46 : decode b_MO_group 46 = .ok (.iaload, 1) := by decide +kernel
theorem d_MO_group_47 : decode b_MO_group 47 = .ok (.ireturn, 1) := by decide +kernel
theorem d_MO_holds_0 : decode b_MO_holds 0 = .ok (.iload_n 1, 1) := by decide +kernel
theorem d_MO_holds_1 : decode b_MO_holds 1 = .ok (.tableswitch 124 0 4 #[35, 45, 59, 80, 101], 35) := by decide +kernel
theorem d_MO_holds_36 : decode b_MO_holds 36 = .ok (.iload_n 2, 1) := by decide +kernel
theorem d_MO_holds_37 : decode b_MO_holds 37 = .ok (.ifCond .ne 7, 3) := by decide +kernel
theorem d_MO_holds_40 : decode b_MO_holds 40 = .ok (.iconst 1, 1) := by decide +kernel
theorem d_MO_holds_41 : decode b_MO_holds 41 = .ok (.goto 4, 3) := by decide +kernel
theorem d_MO_holds_44 : decode b_MO_holds 44 = .ok (.iconst 0, 1) := by decide +kernel
theorem d_MO_holds_45 : decode b_MO_holds 45 = .ok (.ireturn, 1) := by decide +kernel
theorem d_MO_holds_46 : decode b_MO_holds 46 = .ok (.iload_n 2, 1) := by decide +kernel
theorem d_MO_holds_47 : decode b_MO_holds 47 = .ok (.aload_n 0, 1) := by decide +kernel
theorem d_MO_holds_48 : decode b_MO_holds 48 = .ok (.getfield 510, 3) := by decide +kernel
theorem d_MO_holds_51 : decode b_MO_holds 51 = .ok (.if_icmp .ne 7, 3) := by decide +kernel
theorem d_MO_holds_54 : decode b_MO_holds 54 = .ok (.iconst 1, 1) := by decide +kernel
theorem d_MO_holds_55 : decode b_MO_holds 55 = .ok (.goto 4, 3) := by decide +kernel
theorem d_MO_holds_58 : decode b_MO_holds 58 = .ok (.iconst 0, 1) := by decide +kernel
theorem d_MO_holds_59 : decode b_MO_holds 59 = .ok (.ireturn, 1) := by decide +kernel
theorem d_MO_holds_60 : decode b_MO_holds 60 = .ok (.aload_n 0, 1) := by decide +kernel
theorem d_MO_holds_61 : decode b_MO_holds 61 = .ok (.iload_n 2, 1) := by decide +kernel
theorem d_MO_holds_62 : decode b_MO_holds 62 = .ok (.iconst 1, 1) := by decide +kernel
theorem d_MO_holds_63 : decode b_MO_holds 63 = .ok (.isub, 1) := by decide +kernel
theorem d_MO_holds_64 : decode b_MO_holds 64 = .ok (.invokevirtual 519, 3) := by decide +kernel
theorem d_MO_holds_67 : decode b_MO_holds 67 = .ok (.aload_n 0, 1) := by decide +kernel
theorem d_MO_holds_68 : decode b_MO_holds 68 = .ok (.iload_n 2, 1) := by decide +kernel
theorem d_MO_holds_69 : decode b_MO_holds 69 = .ok (.invokevirtual 519, 3) := by decide +kernel
theorem d_MO_holds_72 : decode b_MO_holds 72 = .ok (.if_icmp .eq 7, 3) := by decide +kernel
theorem d_MO_holds_75 : decode b_MO_holds 75 = .ok (.iconst 1, 1) := by decide +kernel
theorem d_MO_holds_76 : decode b_MO_holds 76 = .ok (.goto 4, 3) := by decide +kernel
theorem d_MO_holds_79 : decode b_MO_holds 79 = .ok (.iconst 0, 1) := by decide +kernel
theorem d_MO_holds_80 : decode b_MO_holds 80 = .ok (.ireturn, 1) := by decide +kernel
theorem d_MO_holds_81 : decode b_MO_holds 81 = .ok (.aload_n 0, 1) := by decide +kernel
theorem d_MO_holds_82 : decode b_MO_holds 82 = .ok (.iload_n 2, 1) := by decide +kernel
theorem d_MO_holds_83 : decode b_MO_holds 83 = .ok (.iconst 1, 1) := by decide +kernel
theorem d_MO_holds_84 : decode b_MO_holds 84 = .ok (.isub, 1) := by decide +kernel
theorem d_MO_holds_85 : decode b_MO_holds 85 = .ok (.invokevirtual 519, 3) := by decide +kernel
theorem d_MO_holds_88 : decode b_MO_holds 88 = .ok (.aload_n 0, 1) := by decide +kernel
theorem d_MO_holds_89 : decode b_MO_holds 89 = .ok (.iload_n 2, 1) := by decide +kernel
theorem d_MO_holds_90 : decode b_MO_holds 90 = .ok (.invokevirtual 519, 3) := by decide +kernel
theorem d_MO_holds_93 : decode b_MO_holds 93 = .ok (.if_icmp .ne 7, 3) := by decide +kernel
theorem d_MO_holds_96 : decode b_MO_holds 96 = .ok (.iconst 1, 1) := by decide +kernel
theorem d_MO_holds_97 : decode b_MO_holds 97 = .ok (.goto 4, 3) := by decide +kernel
theorem d_MO_holds_100 : decode b_MO_holds 100 = .ok (.iconst 0, 1) := by decide +kernel
theorem d_MO_holds_101 : decode b_MO_holds 101 = .ok (.ireturn, 1) := by decide +kernel
theorem d_MO_holds_102 : decode b_MO_holds 102 = .ok (.iload_n 2, 1) := by decide +kernel
theorem d_MO_holds_103 : decode b_MO_holds 103 = .ok (.ifCond .eq 16, 3) := by decide +kernel
theorem d_MO_holds_106 : decode b_MO_holds 106 = .ok (.aload_n 0, 1) := by decide +kernel
theorem d_MO_holds_107 : decode b_MO_holds 107 = .ok (.getfield 22, 3) := by decide +kernel
theorem d_MO_holds_110 : decode b_MO_holds 110 = .ok (.iload_n 2, 1) := by decide +kernel
theorem d_MO_holds_111 : decode b_MO_holds 111 = .ok (.iconst 1, 1) := by decide +kernel
theorem d_MO_holds_112 : decode b_MO_holds 112 = .ok (.isub, 1) := by decide +kernel
theorem d_MO_holds_113 : decode b_MO_holds 113 = .ok (.iaload, 1) := by decide +kernel
theorem d_MO_holds_114 : decode b_MO_holds 114 = .ok (.bipush 10, 2) := by decide +kernel
theorem d_MO_holds_116 : decode b_MO_holds 116 = .ok (.if_icmp .ne 7, 3) := by decide +kernel
theorem d_MO_holds_119 : decode b_MO_holds 119 = .ok (.iconst 1, 1) := by decide +kernel
theorem d_MO_holds_120 : decode b_MO_holds 120 = .ok (.goto 4, 3) := by decide +kernel
theorem d_MO_holds_123 : decode b_MO_holds 123 = .ok (.iconst 0, 1) := by decide +kernel
theorem d_MO_holds_124 : decode b_MO_holds 124 = .ok (.ireturn, 1) := by decide +kernel
theorem d_MO_holds_125 : decode b_MO_holds 125 = .ok (.iload_n 2, 1) := by decide +kernel
theorem d_MO_holds_126 : decode b_MO_holds 126 = .ok (.aload_n 0, 1) := by decide +kernel
theorem d_MO_holds_127 : decode b_MO_holds 127 = .ok (.getfield 510, 3) := by decide +kernel
theorem d_MO_holds_130 : decode b_MO_holds 130 = .ok (.if_icmp .eq 14, 3) := by decide +kernel
theorem d_MO_holds_133 : decode b_MO_holds 133 = .ok (.aload_n 0, 1) := by decide +kernel
theorem d_MO_holds_134 : decode b_MO_holds 134 = .ok (.getfield 22, 3) := by decide +kernel
theorem d_MO_holds_137 : decode b_MO_holds 137 = .ok (.iload_n 2, 1) := by decide +kernel
theorem d_MO_holds_138 : decode b_MO_holds 138 = .ok (.iaload, 1) := by decide +kernel
theorem d_MO_holds_139 : decode b_MO_holds 139 = .ok (.bipush 10, 2) := by decide +kernel
theorem d_MO_holds_141 : decode b_MO_holds 141 = .ok (.if_icmp .ne 7, 3) := by decide +kernel
theorem d_MO_holds_144 : decode b_MO_holds 144 = .ok (.iconst 1, 1) := by decide +kernel
theorem d_MO_holds_145 : decode b_MO_holds 145 = .ok (.goto 4, 3) := by decide +kernel
theorem d_MO_holds_148 : decode b_MO_holds 148 = .ok (.iconst 0, 1) := by decide +kernel
theorem d_MO_holds_149 : decode b_MO_holds 149 = .ok (.ireturn, 1) := by decide +kernel
theorem d_MO_isThere_0 : decode b_MO_isThere 0 = .ok (.iload_n 1, 1) := by decide +kernel
theorem d_MO_isThere_1 : decode b_MO_isThere 1 = .ok (.ifCond .lt 22, 3) := by decide +kernel
theorem d_MO_isThere_4 : decode b_MO_isThere 4 = .ok (.iload_n 1, 1) := by decide +kernel
theorem d_MO_isThere_5 : decode b_MO_isThere 5 = .ok (.bipush 6, 2) := by decide +kernel
theorem d_MO_isThere_7 : decode b_MO_isThere 7 = .ok (.if_icmp .ge 16, 3) := by decide +kernel
theorem d_MO_isThere_10 : decode b_MO_isThere 10 = .ok (.aload_n 0, 1) := by decide +kernel
theorem d_MO_isThere_11 : decode b_MO_isThere 11 = .ok (.getfield 109, 3) := by decide +kernel
theorem d_MO_isThere_14 : decode b_MO_isThere 14 = .ok (.iload_n 1, 1) := by decide +kernel
theorem d_MO_isThere_15 : decode b_MO_isThere 15 = .ok (.baload, 1) := by decide +kernel
theorem d_MO_isThere_16 : decode b_MO_isThere 16 = .ok (.ifCond .eq 7, 3) := by decide +kernel
theorem d_MO_isThere_19 : decode b_MO_isThere 19 = .ok (.iconst 1, 1) := by decide +kernel
theorem d_MO_isThere_20 : decode b_MO_isThere 20 = .ok (.goto 4, 3) := by decide +kernel
theorem d_MO_isThere_23 : decode b_MO_isThere 23 = .ok (.iconst 0, 1) := by decide +kernel
theorem d_MO_isThere_24 : decode b_MO_isThere 24 = .ok (.ireturn, 1) := by decide +kernel
theorem d_MO_isWord_0 : decode b_MO_isWord 0 = .ok (.iload_n 0, 1) := by decide +kernel
theorem d_MO_isWord_1 : decode b_MO_isWord 1 = .ok (.bipush 48, 2) := by decide +kernel
theorem d_MO_isWord_3 : decode b_MO_isWord 3 = .ok (.if_icmp .lt 9, 3) := by decide +kernel
theorem d_MO_isWord_6 : decode b_MO_isWord 6 = .ok (.iload_n 0, 1) := by decide +kernel
theorem d_MO_isWord_7 : decode b_MO_isWord 7 = .ok (.bipush 57, 2) := by decide +kernel
theorem d_MO_isWord_9 : decode b_MO_isWord 9 = .ok (.if_icmp .le 33, 3) := by decide +kernel
theorem d_MO_isWord_12 : decode b_MO_isWord 12 = .ok (.iload_n 0, 1) := by decide +kernel
theorem d_MO_isWord_13 : decode b_MO_isWord 13 = .ok (.bipush 65, 2) := by decide +kernel
theorem d_MO_isWord_15 : decode b_MO_isWord 15 = .ok (.if_icmp .lt 9, 3) := by decide +kernel
theorem d_MO_isWord_18 : decode b_MO_isWord 18 = .ok (.iload_n 0, 1) := by decide +kernel
theorem d_MO_isWord_19 : decode b_MO_isWord 19 = .ok (.bipush 90, 2) := by decide +kernel
theorem d_MO_isWord_21 : decode b_MO_isWord 21 = .ok (.if_icmp .le 21, 3) := by decide +kernel
theorem d_MO_isWord_24 : decode b_MO_isWord 24 = .ok (.iload_n 0, 1) := by decide +kernel
theorem d_MO_isWord_25 : decode b_MO_isWord 25 = .ok (.bipush 97, 2) := by decide +kernel
theorem d_MO_isWord_27 : decode b_MO_isWord 27 = .ok (.if_icmp .lt 9, 3) := by decide +kernel
theorem d_MO_isWord_30 : decode b_MO_isWord 30 = .ok (.iload_n 0, 1) := by decide +kernel
theorem d_MO_isWord_31 : decode b_MO_isWord 31 = .ok (.bipush 122, 2) := by decide +kernel
theorem d_MO_isWord_33 : decode b_MO_isWord 33 = .ok (.if_icmp .le 9, 3) := by decide +kernel
theorem d_MO_isWord_36 : decode b_MO_isWord 36 = .ok (.iload_n 0, 1) := by decide +kernel
theorem d_MO_isWord_37 : decode b_MO_isWord 37 = .ok (.bipush 95, 2) := by decide +kernel
theorem d_MO_isWord_39 : decode b_MO_isWord 39 = .ok (.if_icmp .ne 7, 3) := by decide +kernel
theorem d_MO_isWord_42 : decode b_MO_isWord 42 = .ok (.iconst 1, 1) := by decide +kernel
theorem d_MO_isWord_43 : decode b_MO_isWord 43 = .ok (.goto 4, 3) := by decide +kernel
theorem d_MO_isWord_46 : decode b_MO_isWord 46 = .ok (.iconst 0, 1) := by decide +kernel
theorem d_MO_isWord_47 : decode b_MO_isWord 47 = .ok (.ireturn, 1) := by decide +kernel
theorem d_MO_keep_0 : decode b_MO_keep 0 = .ok (.aload_n 0, 1) := by decide +kernel
theorem d_MO_keep_1 : decode b_MO_keep 1 = .ok (.iload_n 1, 1) := by decide +kernel
theorem d_MO_keep_2 : decode b_MO_keep 2 = .ok (.iconst 4, 1) := by decide +kernel
theorem d_MO_keep_3 : decode b_MO_keep 3 = .ok (.if_icmp .lt 9, 3) := by decide +kernel
theorem d_MO_keep_6 : decode b_MO_keep 6 = .ok (.iload_n 1, 1) := by decide +kernel
theorem d_MO_keep_7 : decode b_MO_keep 7 = .ok (.bipush 64, 2) := by decide +kernel
theorem d_MO_keep_9 : decode b_MO_keep 9 = .ok (.if_icmp .le 7, 3) := by decide +kernel
theorem d_MO_keep_12 : decode b_MO_keep 12 = .ok (.iconst 1, 1) := by decide +kernel
theorem d_MO_keep_13 : decode b_MO_keep 13 = .ok (.goto 4, 3) := by decide +kernel
theorem d_MO_keep_16 : decode b_MO_keep 16 = .ok (.iconst 0, 1) := by decide +kernel
theorem d_MO_keep_17 : decode b_MO_keep 17 = .ok (.putfield 220, 3) := by decide +kernel
theorem d_MO_keep_20 : decode b_MO_keep 20 = .ok (.return_, 1) := by decide +kernel
theorem d_MO_look_0 : decode b_MO_look 0 = .ok (.aload_n 0, 1) := by decide +kernel
theorem d_MO_look_1 : decode b_MO_look 1 = .ok (.aload_n 0, 1) := by decide +kernel
theorem d_MO_look_2 : decode b_MO_look 2 = .ok (.aload_n 0, 1) := by decide +kernel
theorem d_MO_look_3 : decode b_MO_look 3 = .ok (.getfield 22, 3) := by decide +kernel
theorem d_MO_look_6 : decode b_MO_look 6 = .ok (.aload_n 0, 1) := by decide +kernel
theorem d_MO_look_7 : decode b_MO_look 7 = .ok (.getfield 510, 3) := by decide +kernel
theorem d_MO_look_10 : decode b_MO_look 10 = .ok (.iload_n 1, 1) := by decide +kernel
theorem d_MO_look_11 : decode b_MO_look 11 = .ok (.invokevirtual 330, 3) := by decide +kernel
theorem d_MO_look_14 : decode b_MO_look 14 = .ok (.putfield 513, 3) := by decide +kernel
theorem d_MO_look_17 : decode b_MO_look 17 = .ok (.aload_n 0, 1) := by decide +kernel
theorem d_MO_look_18 : decode b_MO_look 18 = .ok (.aload_n 0, 1) := by decide +kernel
theorem d_MO_look_19 : decode b_MO_look 19 = .ok (.getfield 226, 3) := by decide +kernel
theorem d_MO_look_22 : decode b_MO_look 22 = .ok (.putfield 516, 3) := by decide +kernel
theorem d_MO_look_25 : decode b_MO_look 25 = .ok (.return_, 1) := by decide +kernel
theorem d_MO_mark_0 : decode b_MO_mark 0 = .ok (.aload_n 0, 1) := by decide +kernel
theorem d_MO_mark_1 : decode b_MO_mark 1 = .ok (.sipush 196, 3) := by decide +kernel
theorem d_MO_mark_4 : decode b_MO_mark 4 = .ok (.iload_n 1, 1) := by decide +kernel
theorem d_MO_mark_5 : decode b_MO_mark 5 = .ok (.imul, 1) := by decide +kernel
theorem d_MO_mark_6 : decode b_MO_mark 6 = .ok (.iload_n 2, 1) := by decide +kernel
theorem d_MO_mark_7 : decode b_MO_mark 7 = .ok (.bipush 64, 2) := by decide +kernel
theorem d_MO_mark_9 : decode b_MO_mark 9 = .ok (.idiv, 1) := by decide +kernel
theorem d_MO_mark_10 : decode b_MO_mark 10 = .ok (.iadd, 1) := by decide +kernel
theorem d_MO_mark_11 : decode b_MO_mark 11 = .ok (.aload_n 0, 1) := by decide +kernel
theorem d_MO_mark_12 : decode b_MO_mark 12 = .ok (.sipush 196, 3) := by decide +kernel
theorem d_MO_mark_15 : decode b_MO_mark 15 = .ok (.iload_n 1, 1) := by decide +kernel
theorem d_MO_mark_16 : decode b_MO_mark 16 = .ok (.imul, 1) := by decide +kernel
theorem d_MO_mark_17 : decode b_MO_mark 17 = .ok (.iload_n 2, 1) := by decide +kernel
theorem d_MO_mark_18 : decode b_MO_mark 18 = .ok (.bipush 64, 2) := by decide +kernel
theorem d_MO_mark_20 : decode b_MO_mark 20 = .ok (.idiv, 1) := by decide +kernel
theorem d_MO_mark_21 : decode b_MO_mark 21 = .ok (.iadd, 1) := by decide +kernel
theorem d_MO_mark_22 : decode b_MO_mark 22 = .ok (.laload, 1) := by decide +kernel
theorem d_MO_mark_23 : decode b_MO_mark 23 = .ok (.lconst 1, 1) := by decide +kernel
theorem d_MO_mark_24 : decode b_MO_mark 24 = .ok (.iload_n 2, 1) := by decide +kernel
theorem d_MO_mark_25 : decode b_MO_mark 25 = .ok (.bipush 64, 2) := by decide +kernel
theorem d_MO_mark_27 : decode b_MO_mark 27 = .ok (.irem, 1) := by decide +kernel
theorem d_MO_mark_28 : decode b_MO_mark 28 = .ok (.lshl, 1) := by decide +kernel
theorem d_MO_mark_29 : decode b_MO_mark 29 = .ok (.lor, 1) := by decide +kernel
theorem d_MO_mark_30 : decode b_MO_mark 30 = .ok (.lastore, 1) := by decide +kernel
theorem d_MO_mark_31 : decode b_MO_mark 31 = .ok (.return_, 1) := by decide +kernel
theorem d_MO_name_0 : decode b_MO_name 0 = .ok (.aload_n 0, 1) := by decide +kernel
theorem d_MO_name_1 : decode b_MO_name 1 = .ok (.iconst 0, 1) := by decide +kernel
theorem d_MO_name_2 : decode b_MO_name 2 = .ok (.putfield 220, 3) := by decide +kernel
theorem d_MO_name_5 : decode b_MO_name 5 = .ok (.aload_n 0, 1) := by decide +kernel
theorem d_MO_name_6 : decode b_MO_name 6 = .ok (.iload_n 1, 1) := by decide +kernel
theorem d_MO_name_7 : decode b_MO_name 7 = .ok (.invokevirtual 507, 3) := by decide +kernel
theorem d_MO_name_10 : decode b_MO_name 10 = .ok (.ifCond .eq 33, 3) := by decide +kernel
theorem d_MO_name_13 : decode b_MO_name 13 = .ok (.iload_n 2, 1) := by decide +kernel
theorem d_MO_name_14 : decode b_MO_name 14 = .ok (.iconst 1, 1) := by decide +kernel
theorem d_MO_name_15 : decode b_MO_name 15 = .ok (.if_icmp .lt 28, 3) := by decide +kernel
theorem d_MO_name_18 : decode b_MO_name 18 = .ok (.iload_n 2, 1) := by decide +kernel
theorem d_MO_name_19 : decode b_MO_name 19 = .ok (.bipush 9, 2) := by decide +kernel
theorem d_MO_name_21 : decode b_MO_name 21 = .ok (.if_icmp .gt 22, 3) := by decide +kernel
theorem d_MO_name_24 : decode b_MO_name 24 = .ok (.iload_n 3, 1) := by decide +kernel
theorem d_MO_name_25 : decode b_MO_name 25 = .ok (.ifCond .lt 18, 3) := by decide +kernel
theorem d_MO_name_28 : decode b_MO_name 28 = .ok (.iload_n 3, 1) := by decide +kernel
theorem d_MO_name_29 : decode b_MO_name 29 = .ok (.aload_n 0, 1) := by decide +kernel
theorem d_MO_name_30 : decode b_MO_name 30 = .ok (.getfield 155, 3) := by decide +kernel
theorem d_MO_name_33 : decode b_MO_name 33 = .ok (.bipush 10, 2) := by decide +kernel
theorem d_MO_name_35 : decode b_MO_name 35 = .ok (.iload_n 1, 1) := by decide +kernel
theorem d_MO_name_36 : decode b_MO_name 36 = .ok (.imul, 1) := by decide +kernel
theorem d_MO_name_37 : decode b_MO_name 37 = .ok (.iload_n 2, 1) := by decide +kernel
theorem d_MO_name_38 : decode b_MO_name 38 = .ok (.iadd, 1) := by decide +kernel
theorem d_MO_name_39 : decode b_MO_name 39 = .ok (.iaload, 1) := by decide +kernel
theorem d_MO_name_40 : decode b_MO_name 40 = .ok (.if_icmp .lt 7, 3) := by decide +kernel
theorem d_MO_name_43 : decode b_MO_name 43 = .ok (.iconst (-1), 1) := by decide +kernel
theorem d_MO_name_44 : decode b_MO_name 44 = .ok (.goto 19, 3) := by decide +kernel
theorem d_MO_name_47 : decode b_MO_name 47 = .ok (.aload_n 0, 1) := by decide +kernel
theorem d_MO_name_48 : decode b_MO_name 48 = .ok (.getfield 152, 3) := by decide +kernel
theorem d_MO_name_51 : decode b_MO_name 51 = .ok (.bipush 120, 2) := by decide +kernel
theorem d_MO_name_53 : decode b_MO_name 53 = .ok (.iload_n 1, 1) := by decide +kernel
theorem d_MO_name_54 : decode b_MO_name 54 = .ok (.imul, 1) := by decide +kernel
theorem d_MO_name_55 : decode b_MO_name 55 = .ok (.bipush 12, 2) := by decide +kernel
theorem d_MO_name_57 : decode b_MO_name 57 = .ok (.iload_n 2, 1) := by decide +kernel
theorem d_MO_name_58 : decode b_MO_name 58 = .ok (.imul, 1) := by decide +kernel
theorem d_MO_name_59 : decode b_MO_name 59 = .ok (.iadd, 1) := by decide +kernel
theorem d_MO_name_60 : decode b_MO_name 60 = .ok (.iload_n 3, 1) := by decide +kernel
theorem d_MO_name_61 : decode b_MO_name 61 = .ok (.iadd, 1) := by decide +kernel
theorem d_MO_name_62 : decode b_MO_name 62 = .ok (.iaload, 1) := by decide +kernel
theorem d_MO_name_63 : decode b_MO_name 63 = .ok (.ireturn, 1) := by decide +kernel
theorem d_MO_output_0 : decode b_MO_output 0 = .ok (.aload_n 0, 1) := by decide +kernel
theorem d_MO_output_1 : decode b_MO_output 1 = .ok (.iconst 0, 1) := by decide +kernel
theorem d_MO_output_2 : decode b_MO_output 2 = .ok (.putfield 220, 3) := by decide +kernel
theorem d_MO_output_5 : decode b_MO_output 5 = .ok (.iload_n 1, 1) := by decide +kernel
theorem d_MO_output_6 : decode b_MO_output 6 = .ok (.ifCond .lt 11, 3) := by decide +kernel
theorem d_MO_output_9 : decode b_MO_output 9 = .ok (.iload_n 1, 1) := by decide +kernel
theorem d_MO_output_10 : decode b_MO_output 10 = .ok (.aload_n 0, 1) := by decide +kernel
theorem d_MO_output_11 : decode b_MO_output 11 = .ok (.getfield 618, 3) := by decide +kernel
theorem d_MO_output_14 : decode b_MO_output 14 = .ok (.if_icmp .lt 7, 3) := by decide +kernel
theorem d_MO_output_17 : decode b_MO_output 17 = .ok (.iconst (-1), 1) := by decide +kernel
theorem d_MO_output_18 : decode b_MO_output 18 = .ok (.goto 9, 3) := by decide +kernel
theorem d_MO_output_21 : decode b_MO_output 21 = .ok (.aload_n 0, 1) := by decide +kernel
theorem d_MO_output_22 : decode b_MO_output 22 = .ok (.getfield 25, 3) := by decide +kernel
theorem d_MO_output_25 : decode b_MO_output 25 = .ok (.iload_n 1, 1) := by decide +kernel
theorem d_MO_output_26 : decode b_MO_output 26 = .ok (.iaload, 1) := by decide +kernel
theorem d_MO_output_27 : decode b_MO_output 27 = .ok (.ireturn, 1) := by decide +kernel
theorem d_MO_over_0 : decode b_MO_over 0 = .ok (.aload_n 0, 1) := by decide +kernel
theorem d_MO_over_1 : decode b_MO_over 1 = .ok (.iconst 0, 1) := by decide +kernel
theorem d_MO_over_2 : decode b_MO_over 2 = .ok (.putfield 220, 3) := by decide +kernel
theorem d_MO_over_5 : decode b_MO_over 5 = .ok (.iconst 0, 1) := by decide +kernel
theorem d_MO_over_6 : decode b_MO_over 6 = .ok (.ireturn, 1) := by decide +kernel
theorem d_MO_piece_0 : decode b_MO_piece 0 = .ok (.aload_n 0, 1) := by decide +kernel
theorem d_MO_piece_1 : decode b_MO_piece 1 = .ok (.iconst 0, 1) := by decide +kernel
theorem d_MO_piece_2 : decode b_MO_piece 2 = .ok (.putfield 220, 3) := by decide +kernel
theorem d_MO_piece_5 : decode b_MO_piece 5 = .ok (.iload_n 1, 1) := by decide +kernel
theorem d_MO_piece_6 : decode b_MO_piece 6 = .ok (.ifCond .lt 20, 3) := by decide +kernel
theorem d_MO_piece_9 : decode b_MO_piece 9 = .ok (.iload_n 1, 1) := by decide +kernel
theorem d_MO_piece_10 : decode b_MO_piece 10 = .ok (.aload_n 0, 1) := by decide +kernel
theorem d_MO_piece_11 : decode b_MO_piece 11 = .ok (.getfield 588, 3) := by decide +kernel
theorem d_MO_piece_14 : decode b_MO_piece 14 = .ok (.if_icmp .ge 12, 3) := by decide +kernel
theorem d_MO_piece_17 : decode b_MO_piece 17 = .ok (.iload_n 2, 1) := by decide +kernel
theorem d_MO_piece_18 : decode b_MO_piece 18 = .ok (.ifCond .lt 8, 3) := by decide +kernel
theorem d_MO_piece_21 : decode b_MO_piece 21 = .ok (.iload_n 2, 1) := by decide +kernel
theorem d_MO_piece_22 : decode b_MO_piece 22 = .ok (.iconst 1, 1) := by decide +kernel
theorem d_MO_piece_23 : decode b_MO_piece 23 = .ok (.if_icmp .le 7, 3) := by decide +kernel
theorem d_MO_piece_26 : decode b_MO_piece 26 = .ok (.iconst (-1), 1) := by decide +kernel
theorem d_MO_piece_27 : decode b_MO_piece 27 = .ok (.goto 13, 3) := by decide +kernel
theorem d_MO_piece_30 : decode b_MO_piece 30 = .ok (.aload_n 0, 1) := by decide +kernel
theorem d_MO_piece_31 : decode b_MO_piece 31 = .ok (.getfield 214, 3) := by decide +kernel
theorem d_MO_piece_34 : decode b_MO_piece 34 = .ok (.iconst 2, 1) := by decide +kernel
theorem d_MO_piece_35 : decode b_MO_piece 35 = .ok (.iload_n 1, 1) := by decide +kernel
theorem d_MO_piece_36 : decode b_MO_piece 36 = .ok (.imul, 1) := by decide +kernel
theorem d_MO_piece_37 : decode b_MO_piece 37 = .ok (.iload_n 2, 1) := by decide +kernel
theorem d_MO_piece_38 : decode b_MO_piece 38 = .ok (.iadd, 1) := by decide +kernel
theorem d_MO_piece_39 : decode b_MO_piece 39 = .ok (.iaload, 1) := by decide +kernel
theorem d_MO_piece_40 : decode b_MO_piece 40 = .ok (.ireturn, 1) := by decide +kernel
theorem d_MO_quote_0 : decode b_MO_quote 0 = .ok (.aload_n 0, 1) := by decide +kernel
theorem d_MO_quote_1 : decode b_MO_quote 1 = .ok (.iconst 0, 1) := by decide +kernel
theorem d_MO_quote_2 : decode b_MO_quote 2 = .ok (.putfield 220, 3) := by decide +kernel
theorem d_MO_quote_5 : decode b_MO_quote 5 = .ok (.aload_n 0, 1) := by decide +kernel
theorem d_MO_quote_6 : decode b_MO_quote 6 = .ok (.iconst 0, 1) := by decide +kernel
theorem d_MO_quote_7 : decode b_MO_quote 7 = .ok (.putfield 618, 3) := by decide +kernel
theorem d_MO_quote_10 : decode b_MO_quote 10 = .ok (.iconst 0, 1) := by decide +kernel
theorem d_MO_quote_11 : decode b_MO_quote 11 = .ok (.istore_n 1, 1) := by decide +kernel
theorem d_MO_quote_12 : decode b_MO_quote 12 = .ok (.iload_n 1, 1) := by decide +kernel
theorem d_MO_quote_13 : decode b_MO_quote 13 = .ok (.aload_n 0, 1) := by decide +kernel
theorem d_MO_quote_14 : decode b_MO_quote 14 = .ok (.getfield 223, 3) := by decide +kernel
theorem d_MO_quote_17 : decode b_MO_quote 17 = .ok (.if_icmp .ge 88, 3) := by decide +kernel
theorem d_MO_quote_20 : decode b_MO_quote 20 = .ok (.aload_n 0, 1) := by decide +kernel
theorem d_MO_quote_21 : decode b_MO_quote 21 = .ok (.getfield 19, 3) := by decide +kernel
theorem d_MO_quote_24 : decode b_MO_quote 24 = .ok (.iload_n 1, 1) := by decide +kernel
theorem d_MO_quote_25 : decode b_MO_quote 25 = .ok (.iaload, 1) := by decide +kernel
theorem d_MO_quote_26 : decode b_MO_quote 26 = .ok (.bipush 127, 2) := by decide +kernel
theorem d_MO_quote_28 : decode b_MO_quote 28 = .ok (.if_icmp .gt 15, 3) := by decide +kernel
theorem d_MO_quote_31 : decode b_MO_quote 31 = .ok (.aload_n 0, 1) := by decide +kernel
theorem d_MO_quote_32 : decode b_MO_quote 32 = .ok (.getfield 19, 3) := by decide +kernel
theorem d_MO_quote_35 : decode b_MO_quote 35 = .ok (.iload_n 1, 1) := by decide +kernel
theorem d_MO_quote_36 : decode b_MO_quote 36 = .ok (.iaload, 1) := by decide +kernel
theorem d_MO_quote_37 : decode b_MO_quote 37 = .ok (.invokestatic 326, 3) := by decide +kernel
theorem d_MO_quote_40 : decode b_MO_quote 40 = .ok (.ifCond .eq 7, 3) := by decide +kernel
theorem d_MO_quote_43 : decode b_MO_quote 43 = .ok (.iconst 1, 1) := by decide +kernel
theorem d_MO_quote_44 : decode b_MO_quote 44 = .ok (.goto 4, 3) := by decide +kernel
